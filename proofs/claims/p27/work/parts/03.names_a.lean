theorem dX0_init_0 : decode cX0_init 0 = .ok (.aload_n 0, 1) := by decide +kernel
theorem dX0_init_1 : decode cX0_init 1 = .ok (.invokespecial 3, 3) := by decide +kernel
theorem dX0_init_4 : decode cX0_init 4 = .ok (.aload_n 0, 1) := by decide +kernel
theorem dX0_init_5 : decode cX0_init 5 = .ok (.aload_n 1, 1) := by decide +kernel
theorem dX0_init_6 : decode cX0_init 6 = .ok (.putfield 9, 3) := by decide +kernel
theorem dX0_init_9 : decode cX0_init 9 = .ok (.aload_n 0, 1) := by decide +kernel
theorem dX0_init_10 : decode cX0_init 10 = .ok (.aload_n 2, 1) := by decide +kernel
theorem dX0_init_11 : decode cX0_init 11 = .ok (.putfield 15, 3) := by decide +kernel
theorem dX0_init_14 : decode cX0_init 14 = .ok (.return_, 1) := by decide +kernel
set_option maxRecDepth 20000 in
theorem ggX0_place_X3_figurePlace : GoodIn wsX0_place wsX3_figurePlace := goodIn_r _ [5] (by decide +kernel) (by decide +kernel)
set_option maxRecDepth 20000 in
theorem gX0_place_X3_figurePlace : GoodIn wsX0_place (va_wsS RX0 19 yX3_figurePlace wsX3_figurePlace) := goodIn_app (goodIn_of _ (by decide +kernel)) ggX0_place_X3_figurePlace
set_option maxRecDepth 20000 in
theorem ggX0_place_X3_put : GoodIn wsX0_place wsX3_put := goodIn_r _ [9, 10, 13, 14, 15] (by decide +kernel) (by decide +kernel)
set_option maxRecDepth 20000 in
theorem gX0_place_X3_put : GoodIn wsX0_place (wsV RX0 25 RX3 yX3_put wsX3_put) := goodIn_app (goodIn_of _ (by decide +kernel)) ggX0_place_X3_put
theorem dX0_place_0 : decode cX0_place 0 = .ok (.aload_n 0, 1) := by decide +kernel
theorem dX0_place_1 : decode cX0_place 1 = .ok (.getfield 9, 3) := by decide +kernel
theorem dX0_place_4 : decode cX0_place 4 = .ok (.iload_n 1, 1) := by decide +kernel
theorem dX0_place_5 : decode cX0_place 5 = .ok (.iconst 0, 1) := by decide +kernel
theorem dX0_place_6 : decode cX0_place 6 = .ok (.invokestatic 19, 3) := by decide +kernel
theorem dX0_place_9 : decode cX0_place 9 = .ok (.iload_n 2, 1) := by decide +kernel
theorem dX0_place_10 : decode cX0_place 10 = .ok (.invokevirtual 25, 3) := by decide +kernel
theorem dX0_place_13 : decode cX0_place 13 = .ok (.aload_n 0, 1) := by decide +kernel
theorem dX0_place_14 : decode cX0_place 14 = .ok (.getfield 9, 3) := by decide +kernel
theorem dX0_place_17 : decode cX0_place 17 = .ok (.iload_n 1, 1) := by decide +kernel
theorem dX0_place_18 : decode cX0_place 18 = .ok (.iconst 1, 1) := by decide +kernel
theorem dX0_place_19 : decode cX0_place 19 = .ok (.invokestatic 19, 3) := by decide +kernel
theorem dX0_place_22 : decode cX0_place 22 = .ok (.iload_n 3, 1) := by decide +kernel
theorem dX0_place_23 : decode cX0_place 23 = .ok (.invokevirtual 25, 3) := by decide +kernel
theorem dX0_place_26 : decode cX0_place 26 = .ok (.aload_n 0, 1) := by decide +kernel
theorem dX0_place_27 : decode cX0_place 27 = .ok (.getfield 9, 3) := by decide +kernel
theorem dX0_place_30 : decode cX0_place 30 = .ok (.iload_n 1, 1) := by decide +kernel
theorem dX0_place_31 : decode cX0_place 31 = .ok (.iconst 2, 1) := by decide +kernel
theorem dX0_place_32 : decode cX0_place 32 = .ok (.invokestatic 19, 3) := by decide +kernel
theorem dX0_place_35 : decode cX0_place 35 = .ok (.iload 4, 2) := by decide +kernel
theorem dX0_place_37 : decode cX0_place 37 = .ok (.invokevirtual 25, 3) := by decide +kernel
theorem dX0_place_40 : decode cX0_place 40 = .ok (.aload_n 0, 1) := by decide +kernel
theorem dX0_place_41 : decode cX0_place 41 = .ok (.getfield 9, 3) := by decide +kernel
theorem dX0_place_44 : decode cX0_place 44 = .ok (.iload_n 1, 1) := by decide +kernel
theorem dX0_place_45 : decode cX0_place 45 = .ok (.iconst 3, 1) := by decide +kernel
theorem dX0_place_46 : decode cX0_place 46 = .ok (.invokestatic 19, 3) := by decide +kernel
theorem dX0_place_49 : decode cX0_place 49 = .ok (.iload 5, 2) := by decide +kernel
theorem dX0_place_51 : decode cX0_place 51 = .ok (.invokevirtual 25, 3) := by decide +kernel
theorem dX0_place_54 : decode cX0_place 54 = .ok (.return_, 1) := by decide +kernel
set_option maxRecDepth 20000 in
theorem ggX0_firstRow_X3_figurePlace : GoodIn wsX0_firstRow wsX3_figurePlace := goodIn_r _ [5] (by decide +kernel) (by decide +kernel)
set_option maxRecDepth 20000 in
theorem gX0_firstRow_X3_figurePlace : GoodIn wsX0_firstRow (va_wsS RX0 19 yX3_figurePlace wsX3_figurePlace) := goodIn_app (goodIn_of _ (by decide +kernel)) ggX0_firstRow_X3_figurePlace
set_option maxRecDepth 20000 in
theorem ggX0_firstRow_X3_at : GoodIn wsX0_firstRow wsX3_at := goodIn_r _ [9, 10, 13, 14, 15] (by decide +kernel) (by decide +kernel)
set_option maxRecDepth 20000 in
theorem gX0_firstRow_X3_at : GoodIn wsX0_firstRow (wsV RX0 29 RX3 yX3_at wsX3_at) := goodIn_app (goodIn_of _ (by decide +kernel)) ggX0_firstRow_X3_at
theorem dX0_firstRow_0 : decode cX0_firstRow 0 = .ok (.aload_n 0, 1) := by decide +kernel
theorem dX0_firstRow_1 : decode cX0_firstRow 1 = .ok (.getfield 9, 3) := by decide +kernel
theorem dX0_firstRow_4 : decode cX0_firstRow 4 = .ok (.iload_n 1, 1) := by decide +kernel
theorem dX0_firstRow_5 : decode cX0_firstRow 5 = .ok (.iconst 0, 1) := by decide +kernel
theorem dX0_firstRow_6 : decode cX0_firstRow 6 = .ok (.invokestatic 19, 3) := by decide +kernel
theorem dX0_firstRow_9 : decode cX0_firstRow 9 = .ok (.invokevirtual 29, 3) := by decide +kernel
theorem dX0_firstRow_12 : decode cX0_firstRow 12 = .ok (.ireturn, 1) := by decide +kernel
set_option maxRecDepth 20000 in
theorem ggX0_firstColumn_X3_figurePlace : GoodIn wsX0_firstColumn wsX3_figurePlace := goodIn_r _ [5] (by decide +kernel) (by decide +kernel)
set_option maxRecDepth 20000 in
theorem gX0_firstColumn_X3_figurePlace : GoodIn wsX0_firstColumn (va_wsS RX0 19 yX3_figurePlace wsX3_figurePlace) := goodIn_app (goodIn_of _ (by decide +kernel)) ggX0_firstColumn_X3_figurePlace
set_option maxRecDepth 20000 in
theorem ggX0_firstColumn_X3_at : GoodIn wsX0_firstColumn wsX3_at := goodIn_r _ [9, 10, 13, 14, 15] (by decide +kernel) (by decide +kernel)
set_option maxRecDepth 20000 in
theorem gX0_firstColumn_X3_at : GoodIn wsX0_firstColumn (wsV RX0 29 RX3 yX3_at wsX3_at) := goodIn_app (goodIn_of _ (by decide +kernel)) ggX0_firstColumn_X3_at
theorem dX0_firstColumn_0 : decode cX0_firstColumn 0 = .ok (.aload_n 0, 1) := by decide +kernel
theorem dX0_firstColumn_1 : decode cX0_firstColumn 1 = .ok (.getfield 9, 3) := by decide +kernel
theorem dX0_firstColumn_4 : decode cX0_firstColumn 4 = .ok (.iload_n 1, 1) := by decide +kernel
theorem dX0_firstColumn_5 : decode cX0_firstColumn 5 = .ok (.iconst 1, 1) := by decide +kernel
theorem dX0_firstColumn_6 : decode cX0_firstColumn 6 = .ok (.invokestatic 19, 3) := by decide +kernel
theorem dX0_firstColumn_9 : decode cX0_firstColumn 9 = .ok (.invokevirtual 29, 3) := by decide +kernel
theorem dX0_firstColumn_12 : decode cX0_firstColumn 12 = .ok (.ireturn, 1) := by decide +kernel
set_option maxRecDepth 20000 in
theorem ggX0_rows_X3_figurePlace : GoodIn wsX0_rows wsX3_figurePlace := goodIn_r _ [5] (by decide +kernel) (by decide +kernel)
set_option maxRecDepth 20000 in
theorem gX0_rows_X3_figurePlace : GoodIn wsX0_rows (va_wsS RX0 19 yX3_figurePlace wsX3_figurePlace) := goodIn_app (goodIn_of _ (by decide +kernel)) ggX0_rows_X3_figurePlace
set_option maxRecDepth 20000 in
theorem ggX0_rows_X3_at : GoodIn wsX0_rows wsX3_at := goodIn_r _ [9, 10, 13, 14, 15] (by decide +kernel) (by decide +kernel)
set_option maxRecDepth 20000 in
theorem gX0_rows_X3_at : GoodIn wsX0_rows (wsV RX0 29 RX3 yX3_at wsX3_at) := goodIn_app (goodIn_of _ (by decide +kernel)) ggX0_rows_X3_at
theorem dX0_rows_0 : decode cX0_rows 0 = .ok (.aload_n 0, 1) := by decide +kernel
theorem dX0_rows_1 : decode cX0_rows 1 = .ok (.getfield 9, 3) := by decide +kernel
theorem dX0_rows_4 : decode cX0_rows 4 = .ok (.iload_n 1, 1) := by decide +kernel
theorem dX0_rows_5 : decode cX0_rows 5 = .ok (.iconst 2, 1) := by decide +kernel
theorem dX0_rows_6 : decode cX0_rows 6 = .ok (.invokestatic 19, 3) := by decide +kernel
theorem dX0_rows_9 : decode cX0_rows 9 = .ok (.invokevirtual 29, 3) := by decide +kernel
theorem dX0_rows_12 : decode cX0_rows 12 = .ok (.ireturn, 1) := by decide +kernel
set_option maxRecDepth 20000 in
theorem ggX0_columns_X3_figurePlace : GoodIn wsX0_columns wsX3_figurePlace := goodIn_r _ [5] (by decide +kernel) (by decide +kernel)
set_option maxRecDepth 20000 in
theorem gX0_columns_X3_figurePlace : GoodIn wsX0_columns (va_wsS RX0 19 yX3_figurePlace wsX3_figurePlace) := goodIn_app (goodIn_of _ (by decide +kernel)) ggX0_columns_X3_figurePlace
set_option maxRecDepth 20000 in
theorem ggX0_columns_X3_at : GoodIn wsX0_columns wsX3_at := goodIn_r _ [9, 10, 13, 14, 15] (by decide +kernel) (by decide +kernel)
set_option maxRecDepth 20000 in
theorem gX0_columns_X3_at : GoodIn wsX0_columns (wsV RX0 29 RX3 yX3_at wsX3_at) := goodIn_app (goodIn_of _ (by decide +kernel)) ggX0_columns_X3_at
theorem dX0_columns_0 : decode cX0_columns 0 = .ok (.aload_n 0, 1) := by decide +kernel
theorem dX0_columns_1 : decode cX0_columns 1 = .ok (.getfield 9, 3) := by decide +kernel
theorem dX0_columns_4 : decode cX0_columns 4 = .ok (.iload_n 1, 1) := by decide +kernel
theorem dX0_columns_5 : decode cX0_columns 5 = .ok (.iconst 3, 1) := by decide +kernel
theorem dX0_columns_6 : decode cX0_columns 6 = .ok (.invokestatic 19, 3) := by decide +kernel
theorem dX0_columns_9 : decode cX0_columns 9 = .ok (.invokevirtual 29, 3) := by decide +kernel
theorem dX0_columns_12 : decode cX0_columns 12 = .ok (.ireturn, 1) := by decide +kernel
set_option maxRecDepth 20000 in
theorem ggX0_isThere_X0_rows : GoodIn wsX0_isThere wsX0_rows := goodIn_r _ [5, 6, 7, 8, 9, 10, 11, 12, 13, 14, 15, 16, 17, 18, 19, 20] (by decide +kernel) (by decide +kernel)
set_option maxRecDepth 20000 in
theorem gX0_isThere_X0_rows : GoodIn wsX0_isThere (wsV RX0 33 RX0 yX0_rows wsX0_rows) := goodIn_app (goodIn_of _ (by decide +kernel)) ggX0_isThere_X0_rows
theorem dX0_isThere_0 : decode cX0_isThere 0 = .ok (.aload_n 0, 1) := by decide +kernel
theorem dX0_isThere_1 : decode cX0_isThere 1 = .ok (.iload_n 1, 1) := by decide +kernel
theorem dX0_isThere_2 : decode cX0_isThere 2 = .ok (.invokevirtual 33, 3) := by decide +kernel
theorem dX0_isThere_5 : decode cX0_isThere 5 = .ok (.ifCond .le 7, 3) := by decide +kernel
theorem dX0_isThere_8 : decode cX0_isThere 8 = .ok (.iconst 1, 1) := by decide +kernel
theorem dX0_isThere_9 : decode cX0_isThere 9 = .ok (.goto 4, 3) := by decide +kernel
theorem dX0_isThere_12 : decode cX0_isThere 12 = .ok (.iconst 0, 1) := by decide +kernel
theorem dX0_isThere_13 : decode cX0_isThere 13 = .ok (.ireturn, 1) := by decide +kernel
set_option maxRecDepth 20000 in
theorem ggX0_cells_X0_rows : GoodIn wsX0_cells wsX0_rows := goodIn_r _ [5, 6, 7, 8, 9, 10, 11, 12, 13, 14, 15, 20, 21, 22, 23, 24] (by decide +kernel) (by decide +kernel)
set_option maxRecDepth 20000 in
theorem gX0_cells_X0_rows : GoodIn wsX0_cells (wsV RX0 33 RX0 yX0_rows wsX0_rows) := goodIn_app (goodIn_of _ (by decide +kernel)) ggX0_cells_X0_rows
set_option maxRecDepth 20000 in
theorem ggX0_cells_X0_columns : GoodIn wsX0_cells wsX0_columns := goodIn_r _ [19, 6, 7, 8, 9, 10, 11, 12, 13, 14, 15, 20, 21, 22, 23, 24] (by decide +kernel) (by decide +kernel)
set_option maxRecDepth 20000 in
theorem gX0_cells_X0_columns : GoodIn wsX0_cells (wsV RX0 36 RX0 yX0_columns wsX0_columns) := goodIn_app (goodIn_of _ (by decide +kernel)) ggX0_cells_X0_columns
theorem dX0_cells_0 : decode cX0_cells 0 = .ok (.aload_n 0, 1) := by decide +kernel
theorem dX0_cells_1 : decode cX0_cells 1 = .ok (.iload_n 1, 1) := by decide +kernel
theorem dX0_cells_2 : decode cX0_cells 2 = .ok (.invokevirtual 33, 3) := by decide +kernel
theorem dX0_cells_5 : decode cX0_cells 5 = .ok (.aload_n 0, 1) := by decide +kernel
theorem dX0_cells_6 : decode cX0_cells 6 = .ok (.iload_n 1, 1) := by decide +kernel
theorem dX0_cells_7 : decode cX0_cells 7 = .ok (.invokevirtual 36, 3) := by decide +kernel
theorem dX0_cells_10 : decode cX0_cells 10 = .ok (.imul, 1) := by decide +kernel
theorem dX0_cells_11 : decode cX0_cells 11 = .ok (.ireturn, 1) := by decide +kernel
set_option maxRecDepth 20000 in
theorem ggX0_frameCells_X0_firstRow : GoodIn wsX0_frameCells wsX0_firstRow := goodIn_r _ [5, 6, 7, 8, 9, 10, 11, 12, 13, 14, 15, 39, 40, 41, 42, 43] (by decide +kernel) (by decide +kernel)
set_option maxRecDepth 20000 in
theorem gX0_frameCells_X0_firstRow : GoodIn wsX0_frameCells (wsV RX0 39 RX0 yX0_firstRow wsX0_firstRow) := goodIn_app (goodIn_of _ (by decide +kernel)) ggX0_frameCells_X0_firstRow
set_option maxRecDepth 20000 in
theorem ggX0_frameCells_X0_firstColumn : GoodIn wsX0_frameCells wsX0_firstColumn := goodIn_r _ [19, 6, 7, 8, 9, 10, 11, 12, 13, 14, 15, 39, 40, 41, 42, 43] (by decide +kernel) (by decide +kernel)
set_option maxRecDepth 20000 in
theorem gX0_frameCells_X0_firstColumn : GoodIn wsX0_frameCells (wsV RX0 42 RX0 yX0_firstColumn wsX0_firstColumn) := goodIn_app (goodIn_of _ (by decide +kernel)) ggX0_frameCells_X0_firstColumn
set_option maxRecDepth 20000 in
theorem ggX0_frameCells_X0_rows : GoodIn wsX0_frameCells wsX0_rows := goodIn_r _ [23, 6, 7, 8, 9, 10, 11, 12, 13, 14, 15, 39, 40, 41, 42, 43] (by decide +kernel) (by decide +kernel)
set_option maxRecDepth 20000 in
theorem gX0_frameCells_X0_rows : GoodIn wsX0_frameCells (wsV RX0 33 RX0 yX0_rows wsX0_rows) := goodIn_app (goodIn_of _ (by decide +kernel)) ggX0_frameCells_X0_rows
set_option maxRecDepth 20000 in
theorem ggX0_frameCells_X0_columns : GoodIn wsX0_frameCells wsX0_columns := goodIn_r _ [27, 6, 7, 8, 9, 10, 11, 12, 13, 14, 15, 39, 40, 41, 42, 43] (by decide +kernel) (by decide +kernel)
set_option maxRecDepth 20000 in
theorem gX0_frameCells_X0_columns : GoodIn wsX0_frameCells (wsV RX0 36 RX0 yX0_columns wsX0_columns) := goodIn_app (goodIn_of _ (by decide +kernel)) ggX0_frameCells_X0_columns
set_option maxRecDepth 20000 in
theorem ggX0_frameCells_X1_cellsOfFrame : GoodIn wsX0_frameCells wsX1_cellsOfFrame := goodIn_r _ [31, 32, 33, 34, 35, 36, 37, 38] (by decide +kernel) (by decide +kernel)
set_option maxRecDepth 20000 in
theorem gX0_frameCells_X1_cellsOfFrame : GoodIn wsX0_frameCells (va_wsS RX0 45 yX1_cellsOfFrame wsX1_cellsOfFrame) := goodIn_app (goodIn_of _ (by decide +kernel)) ggX0_frameCells_X1_cellsOfFrame
theorem dX0_frameCells_0 : decode cX0_frameCells 0 = .ok (.aload_n 0, 1) := by decide +kernel
theorem dX0_frameCells_1 : decode cX0_frameCells 1 = .ok (.iload_n 1, 1) := by decide +kernel
theorem dX0_frameCells_2 : decode cX0_frameCells 2 = .ok (.invokevirtual 39, 3) := by decide +kernel
theorem dX0_frameCells_5 : decode cX0_frameCells 5 = .ok (.aload_n 0, 1) := by decide +kernel
theorem dX0_frameCells_6 : decode cX0_frameCells 6 = .ok (.iload_n 1, 1) := by decide +kernel
theorem dX0_frameCells_7 : decode cX0_frameCells 7 = .ok (.invokevirtual 42, 3) := by decide +kernel
theorem dX0_frameCells_10 : decode cX0_frameCells 10 = .ok (.aload_n 0, 1) := by decide +kernel
theorem dX0_frameCells_11 : decode cX0_frameCells 11 = .ok (.iload_n 1, 1) := by decide +kernel
theorem dX0_frameCells_12 : decode cX0_frameCells 12 = .ok (.invokevirtual 33, 3) := by decide +kernel
theorem dX0_frameCells_15 : decode cX0_frameCells 15 = .ok (.aload_n 0, 1) := by decide +kernel
theorem dX0_frameCells_16 : decode cX0_frameCells 16 = .ok (.iload_n 1, 1) := by decide +kernel
theorem dX0_frameCells_17 : decode cX0_frameCells 17 = .ok (.invokevirtual 36, 3) := by decide +kernel
theorem dX0_frameCells_20 : decode cX0_frameCells 20 = .ok (.invokestatic 45, 3) := by decide +kernel
theorem dX0_frameCells_23 : decode cX0_frameCells 23 = .ok (.ireturn, 1) := by decide +kernel
set_option maxRecDepth 20000 in
theorem ggX0_isHidden_X0_firstRow : GoodIn wsX0_isHidden wsX0_firstRow := goodIn_r _ [13, 1, 14, 15, 16, 17, 18, 19, 20, 21, 22, 38, 39, 40, 41, 42] (by decide +kernel) (by decide +kernel)
set_option maxRecDepth 20000 in
theorem gX0_isHidden_X0_firstRow : GoodIn wsX0_isHidden (wsV RX0 39 RX0 yX0_firstRow wsX0_firstRow) := goodIn_app (goodIn_of _ (by decide +kernel)) ggX0_isHidden_X0_firstRow
set_option maxRecDepth 20000 in
theorem ggX0_isHidden_X0_firstColumn : GoodIn wsX0_isHidden wsX0_firstColumn := goodIn_r _ [26, 1, 14, 15, 16, 17, 18, 19, 20, 21, 22, 38, 39, 40, 41, 42] (by decide +kernel) (by decide +kernel)
set_option maxRecDepth 20000 in
theorem gX0_isHidden_X0_firstColumn : GoodIn wsX0_isHidden (wsV RX0 42 RX0 yX0_firstColumn wsX0_firstColumn) := goodIn_app (goodIn_of _ (by decide +kernel)) ggX0_isHidden_X0_firstColumn
set_option maxRecDepth 20000 in
theorem ggX0_isHidden_X3_inkPlace : GoodIn wsX0_isHidden wsX3_inkPlace := goodIn_r _ [29] (by decide +kernel) (by decide +kernel)
set_option maxRecDepth 20000 in
theorem gX0_isHidden_X3_inkPlace : GoodIn wsX0_isHidden (va_wsS RX0 51 yX3_inkPlace wsX3_inkPlace) := goodIn_app (goodIn_of _ (by decide +kernel)) ggX0_isHidden_X3_inkPlace
set_option maxRecDepth 20000 in
theorem ggX0_isHidden_X3_at : GoodIn wsX0_isHidden wsX3_at := goodIn_r _ [21, 22, 40, 41, 42] (by decide +kernel) (by decide +kernel)
set_option maxRecDepth 20000 in
theorem gX0_isHidden_X3_at : GoodIn wsX0_isHidden (wsV RX0 29 RX3 yX3_at wsX3_at) := goodIn_app (goodIn_of _ (by decide +kernel)) ggX0_isHidden_X3_at
set_option maxRecDepth 20000 in
theorem ggX0_isHidden_X0_rows : GoodIn wsX0_isHidden wsX0_rows := goodIn_r _ [33, 1, 14, 15, 16, 17, 18, 19, 20, 21, 22, 38, 39, 40, 41, 42] (by decide +kernel) (by decide +kernel)
set_option maxRecDepth 20000 in
theorem gX0_isHidden_X0_rows : GoodIn wsX0_isHidden (wsV RX0 33 RX0 yX0_rows wsX0_rows) := goodIn_app (goodIn_of _ (by decide +kernel)) ggX0_isHidden_X0_rows
set_option maxRecDepth 20000 in
theorem ggX0_isHidden_X0_columns : GoodIn wsX0_isHidden wsX0_columns := goodIn_r _ [37, 1, 14, 15, 16, 17, 18, 19, 20, 21, 22, 38, 39, 40, 41, 42] (by decide +kernel) (by decide +kernel)
set_option maxRecDepth 20000 in
theorem gX0_isHidden_X0_columns : GoodIn wsX0_isHidden (wsV RX0 36 RX0 yX0_columns wsX0_columns) := goodIn_app (goodIn_of _ (by decide +kernel)) ggX0_isHidden_X0_columns
theorem dX0_isHidden_0 : decode cX0_isHidden 0 = .ok (.aload_n 0, 1) := by decide +kernel
theorem dX0_isHidden_1 : decode cX0_isHidden 1 = .ok (.iload_n 1, 1) := by decide +kernel
theorem dX0_isHidden_2 : decode cX0_isHidden 2 = .ok (.invokevirtual 39, 3) := by decide +kernel
theorem dX0_isHidden_5 : decode cX0_isHidden 5 = .ok (.istore_n 2, 1) := by decide +kernel
theorem dX0_isHidden_6 : decode cX0_isHidden 6 = .ok (.aload_n 0, 1) := by decide +kernel
theorem dX0_isHidden_7 : decode cX0_isHidden 7 = .ok (.iload_n 1, 1) := by decide +kernel
theorem dX0_isHidden_8 : decode cX0_isHidden 8 = .ok (.invokevirtual 42, 3) := by decide +kernel
theorem dX0_isHidden_11 : decode cX0_isHidden 11 = .ok (.istore_n 3, 1) := by decide +kernel
theorem dX0_isHidden_12 : decode cX0_isHidden 12 = .ok (.aload_n 0, 1) := by decide +kernel
theorem dX0_isHidden_13 : decode cX0_isHidden 13 = .ok (.getfield 9, 3) := by decide +kernel
theorem dX0_isHidden_16 : decode cX0_isHidden 16 = .ok (.iload_n 2, 1) := by decide +kernel
theorem dX0_isHidden_17 : decode cX0_isHidden 17 = .ok (.iload_n 3, 1) := by decide +kernel
theorem dX0_isHidden_18 : decode cX0_isHidden 18 = .ok (.invokestatic 51, 3) := by decide +kernel
theorem dX0_isHidden_21 : decode cX0_isHidden 21 = .ok (.invokevirtual 29, 3) := by decide +kernel
theorem dX0_isHidden_24 : decode cX0_isHidden 24 = .ok (.istore 4, 2) := by decide +kernel
theorem dX0_isHidden_26 : decode cX0_isHidden 26 = .ok (.iload_n 2, 1) := by decide +kernel
theorem dX0_isHidden_27 : decode cX0_isHidden 27 = .ok (.aload_n 0, 1) := by decide +kernel
theorem dX0_isHidden_28 : decode cX0_isHidden 28 = .ok (.iload_n 1, 1) := by decide +kernel
theorem dX0_isHidden_29 : decode cX0_isHidden 29 = .ok (.invokevirtual 33, 3) := by decide +kernel
theorem dX0_isHidden_32 : decode cX0_isHidden 32 = .ok (.iadd, 1) := by decide +kernel
theorem dX0_isHidden_33 : decode cX0_isHidden 33 = .ok (.iconst 1, 1) := by decide +kernel
theorem dX0_isHidden_34 : decode cX0_isHidden 34 = .ok (.iadd, 1) := by decide +kernel
theorem dX0_isHidden_35 : decode cX0_isHidden 35 = .ok (.bipush 6, 2) := by decide +kernel
theorem dX0_isHidden_37 : decode cX0_isHidden 37 = .ok (.invokestatic 54, 3) := by decide +kernel
theorem dX0_isHidden_40 : decode cX0_isHidden 40 = .ok (.istore 5, 2) := by decide +kernel
theorem dX0_isHidden_42 : decode cX0_isHidden 42 = .ok (.iload_n 3, 1) := by decide +kernel
theorem dX0_isHidden_43 : decode cX0_isHidden 43 = .ok (.aload_n 0, 1) := by decide +kernel
theorem dX0_isHidden_44 : decode cX0_isHidden 44 = .ok (.iload_n 1, 1) := by decide +kernel
theorem dX0_isHidden_45 : decode cX0_isHidden 45 = .ok (.invokevirtual 36, 3) := by decide +kernel
theorem dX0_isHidden_48 : decode cX0_isHidden 48 = .ok (.iadd, 1) := by decide +kernel
theorem dX0_isHidden_49 : decode cX0_isHidden 49 = .ok (.iconst 1, 1) := by decide +kernel
theorem dX0_isHidden_50 : decode cX0_isHidden 50 = .ok (.iadd, 1) := by decide +kernel
theorem dX0_isHidden_51 : decode cX0_isHidden 51 = .ok (.bipush 12, 2) := by decide +kernel
theorem dX0_isHidden_53 : decode cX0_isHidden 53 = .ok (.invokestatic 54, 3) := by decide +kernel
theorem dX0_isHidden_56 : decode cX0_isHidden 56 = .ok (.istore 6, 2) := by decide +kernel
theorem dX0_isHidden_58 : decode cX0_isHidden 58 = .ok (.iload_n 2, 1) := by decide +kernel
theorem dX0_isHidden_59 : decode cX0_isHidden 59 = .ok (.iconst 1, 1) := by decide +kernel
theorem dX0_isHidden_60 : decode cX0_isHidden 60 = .ok (.isub, 1) := by decide +kernel
theorem dX0_isHidden_61 : decode cX0_isHidden 61 = .ok (.iconst 0, 1) := by decide +kernel
theorem dX0_isHidden_62 : decode cX0_isHidden 62 = .ok (.invokestatic 59, 3) := by decide +kernel
theorem dX0_isHidden_65 : decode cX0_isHidden 65 = .ok (.istore 7, 2) := by decide +kernel
theorem dX0_isHidden_67 : decode cX0_isHidden 67 = .ok (.iload 7, 2) := by decide +kernel
theorem dX0_isHidden_69 : decode cX0_isHidden 69 = .ok (.iload 5, 2) := by decide +kernel
theorem dX0_isHidden_71 : decode cX0_isHidden 71 = .ok (.if_icmp .ge 52, 3) := by decide +kernel
theorem dX0_isHidden_74 : decode cX0_isHidden 74 = .ok (.iload_n 3, 1) := by decide +kernel
theorem dX0_isHidden_75 : decode cX0_isHidden 75 = .ok (.iconst 1, 1) := by decide +kernel
theorem dX0_isHidden_76 : decode cX0_isHidden 76 = .ok (.isub, 1) := by decide +kernel
theorem dX0_isHidden_77 : decode cX0_isHidden 77 = .ok (.iconst 0, 1) := by decide +kernel
theorem dX0_isHidden_78 : decode cX0_isHidden 78 = .ok (.invokestatic 59, 3) := by decide +kernel
theorem dX0_isHidden_81 : decode cX0_isHidden 81 = .ok (.istore 8, 2) := by decide +kernel
theorem dX0_isHidden_83 : decode cX0_isHidden 83 = .ok (.iload 8, 2) := by decide +kernel
theorem dX0_isHidden_85 : decode cX0_isHidden 85 = .ok (.iload 6, 2) := by decide +kernel
theorem dX0_isHidden_87 : decode cX0_isHidden 87 = .ok (.if_icmp .ge 30, 3) := by decide +kernel
theorem dX0_isHidden_90 : decode cX0_isHidden 90 = .ok (.aload_n 0, 1) := by decide +kernel
theorem dX0_isHidden_91 : decode cX0_isHidden 91 = .ok (.getfield 9, 3) := by decide +kernel
theorem dX0_isHidden_94 : decode cX0_isHidden 94 = .ok (.iload 7, 2) := by decide +kernel
theorem dX0_isHidden_96 : decode cX0_isHidden 96 = .ok (.iload 8, 2) := by decide +kernel
theorem dX0_isHidden_98 : decode cX0_isHidden 98 = .ok (.invokestatic 51, 3) := by decide +kernel
theorem dX0_isHidden_101 : decode cX0_isHidden 101 = .ok (.invokevirtual 29, 3) := by decide +kernel
theorem dX0_isHidden_104 : decode cX0_isHidden 104 = .ok (.iload 4, 2) := by decide +kernel
theorem dX0_isHidden_106 : decode cX0_isHidden 106 = .ok (.if_icmp .eq 5, 3) := by decide +kernel
theorem dX0_isHidden_109 : decode cX0_isHidden 109 = .ok (.iconst 0, 1) := by decide +kernel
theorem dX0_isHidden_110 : decode cX0_isHidden 110 = .ok (.ireturn, 1) := by decide +kernel
theorem dX0_isHidden_111 : decode cX0_isHidden 111 = .ok (.iinc 8 1, 3) := by decide +kernel
theorem dX0_isHidden_114 : decode cX0_isHidden 114 = .ok (.goto (-31), 3) := by decide +kernel
theorem dX0_isHidden_117 : decode cX0_isHidden 117 = .ok (.iinc 7 1, 3) := by decide +kernel
theorem dX0_isHidden_120 : decode cX0_isHidden 120 = .ok (.goto (-53), 3) := by decide +kernel
theorem dX0_isHidden_123 : decode cX0_isHidden 123 = .ok (.iconst 1, 1) := by decide +kernel
theorem dX0_isHidden_124 : decode cX0_isHidden 124 = .ok (.ireturn, 1) := by decide +kernel
set_option maxRecDepth 20000 in
theorem ggX0_contrastOn_X1_look : GoodIn wsX0_contrastOn wsX1_look := goodIn_r _ [6, 7, 8, 9, 10, 11, 12, 13, 14, 15, 16, 17, 18, 19, 20, 21, 22, 23, 24, 25, 26, 27, 28, 29, 5, 30, 31, 32, 33, 34, 35, 36, 37, 38, 39, 40, 41, 42, 43, 44, 45, 85, 86, 87, 88, 89, 90, 91] (by decide +kernel) (by decide +kernel)
set_option maxRecDepth 20000 in
theorem gX0_contrastOn_X1_look : GoodIn wsX0_contrastOn (wsV RX0 62 RX1 yX1_look wsX1_look) := goodIn_app (goodIn_of _ (by decide +kernel)) ggX0_contrastOn_X1_look
set_option maxRecDepth 20000 in
theorem ggX0_contrastOn_X0_firstRow : GoodIn wsX0_contrastOn wsX0_firstRow := goodIn_r _ [50, 51, 52, 53, 20, 54, 55, 23, 24, 25, 26, 83, 84, 89, 90, 91] (by decide +kernel) (by decide +kernel)
set_option maxRecDepth 20000 in
theorem gX0_contrastOn_X0_firstRow : GoodIn wsX0_contrastOn (wsV RX0 39 RX0 yX0_firstRow wsX0_firstRow) := goodIn_app (goodIn_of _ (by decide +kernel)) ggX0_contrastOn_X0_firstRow
set_option maxRecDepth 20000 in
theorem ggX0_contrastOn_X0_firstColumn : GoodIn wsX0_contrastOn wsX0_firstColumn := goodIn_r _ [59, 51, 52, 53, 20, 54, 55, 23, 24, 25, 26, 83, 84, 89, 90, 91] (by decide +kernel) (by decide +kernel)
set_option maxRecDepth 20000 in
theorem gX0_contrastOn_X0_firstColumn : GoodIn wsX0_contrastOn (wsV RX0 42 RX0 yX0_firstColumn wsX0_firstColumn) := goodIn_app (goodIn_of _ (by decide +kernel)) ggX0_contrastOn_X0_firstColumn
set_option maxRecDepth 20000 in
theorem ggX0_contrastOn_X0_rows : GoodIn wsX0_contrastOn wsX0_rows := goodIn_r _ [63, 51, 52, 53, 20, 54, 55, 23, 24, 25, 26, 83, 84, 89, 90, 91] (by decide +kernel) (by decide +kernel)
set_option maxRecDepth 20000 in
theorem gX0_contrastOn_X0_rows : GoodIn wsX0_contrastOn (wsV RX0 33 RX0 yX0_rows wsX0_rows) := goodIn_app (goodIn_of _ (by decide +kernel)) ggX0_contrastOn_X0_rows
set_option maxRecDepth 20000 in
theorem ggX0_contrastOn_X0_columns : GoodIn wsX0_contrastOn wsX0_columns := goodIn_r _ [67, 51, 52, 53, 20, 54, 55, 23, 24, 25, 26, 83, 84, 89, 90, 91] (by decide +kernel) (by decide +kernel)
set_option maxRecDepth 20000 in
theorem gX0_contrastOn_X0_columns : GoodIn wsX0_contrastOn (wsV RX0 36 RX0 yX0_columns wsX0_columns) := goodIn_app (goodIn_of _ (by decide +kernel)) ggX0_contrastOn_X0_columns
set_option maxRecDepth 20000 in
theorem ggX0_contrastOn_X1_contrastOf : GoodIn wsX0_contrastOn wsX1_contrastOf := goodIn_r _ [71, 72, 73, 5, 74, 9, 10, 11, 12, 13, 14, 15, 75, 76, 77, 78, 17, 79, 80, 81, 82, 85, 86, 87, 88] (by decide +kernel) (by decide +kernel)
set_option maxRecDepth 20000 in
theorem gX0_contrastOn_X1_contrastOf : GoodIn wsX0_contrastOn (wsV RX0 66 RX1 yX1_contrastOf wsX1_contrastOf) := goodIn_app (goodIn_of _ (by decide +kernel)) ggX0_contrastOn_X1_contrastOf
theorem dX0_contrastOn_0 : decode cX0_contrastOn 0 = .ok (.aload_n 0, 1) := by decide +kernel
theorem dX0_contrastOn_1 : decode cX0_contrastOn 1 = .ok (.getfield 15, 3) := by decide +kernel
theorem dX0_contrastOn_4 : decode cX0_contrastOn 4 = .ok (.iload_n 2, 1) := by decide +kernel
theorem dX0_contrastOn_5 : decode cX0_contrastOn 5 = .ok (.invokevirtual 62, 3) := by decide +kernel
theorem dX0_contrastOn_8 : decode cX0_contrastOn 8 = .ok (.aload_n 0, 1) := by decide +kernel
theorem dX0_contrastOn_9 : decode cX0_contrastOn 9 = .ok (.getfield 15, 3) := by decide +kernel
theorem dX0_contrastOn_12 : decode cX0_contrastOn 12 = .ok (.aload_n 0, 1) := by decide +kernel
theorem dX0_contrastOn_13 : decode cX0_contrastOn 13 = .ok (.iload_n 1, 1) := by decide +kernel
theorem dX0_contrastOn_14 : decode cX0_contrastOn 14 = .ok (.invokevirtual 39, 3) := by decide +kernel
theorem dX0_contrastOn_17 : decode cX0_contrastOn 17 = .ok (.aload_n 0, 1) := by decide +kernel
theorem dX0_contrastOn_18 : decode cX0_contrastOn 18 = .ok (.iload_n 1, 1) := by decide +kernel
theorem dX0_contrastOn_19 : decode cX0_contrastOn 19 = .ok (.invokevirtual 42, 3) := by decide +kernel
theorem dX0_contrastOn_22 : decode cX0_contrastOn 22 = .ok (.aload_n 0, 1) := by decide +kernel
theorem dX0_contrastOn_23 : decode cX0_contrastOn 23 = .ok (.iload_n 1, 1) := by decide +kernel
theorem dX0_contrastOn_24 : decode cX0_contrastOn 24 = .ok (.invokevirtual 33, 3) := by decide +kernel
theorem dX0_contrastOn_27 : decode cX0_contrastOn 27 = .ok (.aload_n 0, 1) := by decide +kernel
theorem dX0_contrastOn_28 : decode cX0_contrastOn 28 = .ok (.iload_n 1, 1) := by decide +kernel
theorem dX0_contrastOn_29 : decode cX0_contrastOn 29 = .ok (.invokevirtual 36, 3) := by decide +kernel
theorem dX0_contrastOn_32 : decode cX0_contrastOn 32 = .ok (.invokevirtual 66, 3) := by decide +kernel
theorem dX0_contrastOn_35 : decode cX0_contrastOn 35 = .ok (.ireturn, 1) := by decide +kernel
set_option maxRecDepth 20000 in
theorem ggX0_isSeen_X3_settingPlace : GoodIn wsX0_isSeen wsX3_settingPlace := goodIn_r _ [9] (by decide +kernel) (by decide +kernel)
set_option maxRecDepth 20000 in
theorem gX0_isSeen_X3_settingPlace : GoodIn wsX0_isSeen (va_wsS RX0 72 yX3_settingPlace wsX3_settingPlace) := goodIn_app (goodIn_of _ (by decide +kernel)) ggX0_isSeen_X3_settingPlace
set_option maxRecDepth 20000 in
theorem ggX0_isSeen_X3_at : GoodIn wsX0_isSeen wsX3_at := goodIn_r _ [13, 14, 17, 18, 19] (by decide +kernel) (by decide +kernel)
set_option maxRecDepth 20000 in
theorem gX0_isSeen_X3_at : GoodIn wsX0_isSeen (wsV RX0 29 RX3 yX3_at wsX3_at) := goodIn_app (goodIn_of _ (by decide +kernel)) ggX0_isSeen_X3_at
theorem dX0_isSeen_0 : decode cX0_isSeen 0 = .ok (.iload_n 1, 1) := by decide +kernel
theorem dX0_isSeen_1 : decode cX0_isSeen 1 = .ok (.invokestatic 69, 3) := by decide +kernel
theorem dX0_isSeen_4 : decode cX0_isSeen 4 = .ok (.aload_n 0, 1) := by decide +kernel
theorem dX0_isSeen_5 : decode cX0_isSeen 5 = .ok (.getfield 9, 3) := by decide +kernel
theorem dX0_isSeen_8 : decode cX0_isSeen 8 = .ok (.iconst 2, 1) := by decide +kernel
theorem dX0_isSeen_9 : decode cX0_isSeen 9 = .ok (.invokestatic 72, 3) := by decide +kernel
theorem dX0_isSeen_12 : decode cX0_isSeen 12 = .ok (.invokevirtual 29, 3) := by decide +kernel
theorem dX0_isSeen_15 : decode cX0_isSeen 15 = .ok (.if_icmp .lt 7, 3) := by decide +kernel
theorem dX0_isSeen_18 : decode cX0_isSeen 18 = .ok (.iconst 1, 1) := by decide +kernel
theorem dX0_isSeen_19 : decode cX0_isSeen 19 = .ok (.goto 4, 3) := by decide +kernel
theorem dX0_isSeen_22 : decode cX0_isSeen 22 = .ok (.iconst 0, 1) := by decide +kernel
theorem dX0_isSeen_23 : decode cX0_isSeen 23 = .ok (.ireturn, 1) := by decide +kernel
set_option maxRecDepth 20000 in
theorem ggX0_firstNoteSeen_X0_contrastOn : GoodIn wsX0_firstNoteSeen wsX0_contrastOn := goodIn_r _ [5, 6, 7, 8, 9, 10, 11, 12, 13, 14, 15, 16, 17, 18, 19, 20, 21, 22, 23, 24, 25, 26, 27, 28, 29, 30, 31, 32, 33, 34, 35, 36, 37, 38, 39, 40, 41, 42, 43, 44, 45, 46, 47, 48, 49, 50, 51, 52, 53, 4, 54, 55, 56, 57, 58, 59, 60, 61, 62, 63, 64, 65, 66, 67, 68, 69, 70, 71, 72, 73, 74, 75, 76, 77, 78, 79, 80, 81, 82, 83, 84, 85, 86, 95, 96, 97, 98, 99, 100, 101, 102, 103] (by decide +kernel) (by decide +kernel)
set_option maxRecDepth 20000 in
theorem gX0_firstNoteSeen_X0_contrastOn : GoodIn wsX0_firstNoteSeen (wsV RX0 75 RX0 yX0_contrastOn wsX0_contrastOn) := goodIn_app (goodIn_of _ (by decide +kernel)) ggX0_firstNoteSeen_X0_contrastOn
set_option maxRecDepth 20000 in
theorem ggX0_firstNoteSeen_X0_isSeen : GoodIn wsX0_firstNoteSeen wsX0_isSeen := goodIn_r _ [90, 91, 92, 16, 93, 55, 94, 24, 25, 26, 59, 28, 29, 30, 31, 95, 96, 101, 102, 103] (by decide +kernel) (by decide +kernel)
set_option maxRecDepth 20000 in
theorem gX0_firstNoteSeen_X0_isSeen : GoodIn wsX0_firstNoteSeen (wsV RX0 78 RX0 yX0_isSeen wsX0_isSeen) := goodIn_app (goodIn_of _ (by decide +kernel)) ggX0_firstNoteSeen_X0_isSeen
theorem dX0_firstNoteSeen_0 : decode cX0_firstNoteSeen 0 = .ok (.iconst 0, 1) := by decide +kernel
theorem dX0_firstNoteSeen_1 : decode cX0_firstNoteSeen 1 = .ok (.istore_n 2, 1) := by decide +kernel
theorem dX0_firstNoteSeen_2 : decode cX0_firstNoteSeen 2 = .ok (.iload_n 2, 1) := by decide +kernel
theorem dX0_firstNoteSeen_3 : decode cX0_firstNoteSeen 3 = .ok (.bipush 100, 2) := by decide +kernel
theorem dX0_firstNoteSeen_5 : decode cX0_firstNoteSeen 5 = .ok (.if_icmp .ge 24, 3) := by decide +kernel
theorem dX0_firstNoteSeen_8 : decode cX0_firstNoteSeen 8 = .ok (.aload_n 0, 1) := by decide +kernel
theorem dX0_firstNoteSeen_9 : decode cX0_firstNoteSeen 9 = .ok (.aload_n 0, 1) := by decide +kernel
theorem dX0_firstNoteSeen_10 : decode cX0_firstNoteSeen 10 = .ok (.iload_n 1, 1) := by decide +kernel
theorem dX0_firstNoteSeen_11 : decode cX0_firstNoteSeen 11 = .ok (.iload_n 2, 1) := by decide +kernel
theorem dX0_firstNoteSeen_12 : decode cX0_firstNoteSeen 12 = .ok (.invokevirtual 75, 3) := by decide +kernel
theorem dX0_firstNoteSeen_15 : decode cX0_firstNoteSeen 15 = .ok (.invokevirtual 78, 3) := by decide +kernel
theorem dX0_firstNoteSeen_18 : decode cX0_firstNoteSeen 18 = .ok (.ifCond .eq 5, 3) := by decide +kernel
theorem dX0_firstNoteSeen_21 : decode cX0_firstNoteSeen 21 = .ok (.iload_n 2, 1) := by decide +kernel
theorem dX0_firstNoteSeen_22 : decode cX0_firstNoteSeen 22 = .ok (.ireturn, 1) := by decide +kernel
theorem dX0_firstNoteSeen_23 : decode cX0_firstNoteSeen 23 = .ok (.iinc 2 1, 3) := by decide +kernel
theorem dX0_firstNoteSeen_26 : decode cX0_firstNoteSeen 26 = .ok (.goto (-24), 3) := by decide +kernel
theorem dX0_firstNoteSeen_29 : decode cX0_firstNoteSeen 29 = .ok (.iconst (-1), 1) := by decide +kernel
theorem dX0_firstNoteSeen_30 : decode cX0_firstNoteSeen 30 = .ok (.ireturn, 1) := by decide +kernel
set_option maxRecDepth 20000 in
theorem ggX0_notesGood_X0_isHidden : GoodIn wsX0_notesGood wsX0_isHidden := goodIn_r _ [5, 6, 7, 8, 9, 10, 11, 12, 13, 14, 15, 16, 4, 17, 18, 19, 20, 21, 22, 23, 24, 25, 26, 27, 28, 29, 30, 31, 32, 33, 34, 35, 36, 37, 38, 39, 40, 41, 102, 103, 104, 105, 106] (by decide +kernel) (by decide +kernel)
set_option maxRecDepth 20000 in
theorem gX0_notesGood_X0_isHidden : GoodIn wsX0_notesGood (wsV RX0 82 RX0 yX0_isHidden wsX0_isHidden) := goodIn_app (goodIn_of _ (by decide +kernel)) ggX0_notesGood_X0_isHidden
set_option maxRecDepth 20000 in
theorem ggX0_notesGood_X0_contrastOn : GoodIn wsX0_notesGood wsX0_contrastOn := goodIn_r _ [45, 46, 47, 48, 49, 50, 51, 52, 53, 54, 8, 9, 10, 55, 12, 13, 56, 57, 58, 59, 20, 60, 61, 23, 24, 25, 26, 62, 63, 64, 65, 66, 67, 68, 69, 70, 71, 72, 73, 74, 75, 76, 77, 78, 32, 33, 14, 15, 16, 4, 17, 6, 18, 19, 21, 22, 27, 28, 29, 30, 34, 35, 36, 37, 38, 39, 40, 41, 79, 80, 81, 82, 83, 84, 85, 86, 87, 88, 89, 90, 91, 92, 93, 102, 103, 107, 108, 109, 110, 104, 105, 106] (by decide +kernel) (by decide +kernel)
set_option maxRecDepth 20000 in
theorem gX0_notesGood_X0_contrastOn : GoodIn wsX0_notesGood (wsV RX0 75 RX0 yX0_contrastOn wsX0_contrastOn) := goodIn_app (goodIn_of _ (by decide +kernel)) ggX0_notesGood_X0_contrastOn
set_option maxRecDepth 20000 in
theorem ggX0_notesGood_X0_isSeen : GoodIn wsX0_notesGood wsX0_isSeen := goodIn_r _ [97, 98, 99, 9, 100, 6, 101, 59, 20, 60, 22, 23, 24, 25, 26, 102, 103, 104, 105, 106] (by decide +kernel) (by decide +kernel)
set_option maxRecDepth 20000 in
theorem gX0_notesGood_X0_isSeen : GoodIn wsX0_notesGood (wsV RX0 78 RX0 yX0_isSeen wsX0_isSeen) := goodIn_app (goodIn_of _ (by decide +kernel)) ggX0_notesGood_X0_isSeen
theorem dX0_notesGood_0 : decode cX0_notesGood 0 = .ok (.aload_n 0, 1) := by decide +kernel
theorem dX0_notesGood_1 : decode cX0_notesGood 1 = .ok (.iload_n 1, 1) := by decide +kernel
theorem dX0_notesGood_2 : decode cX0_notesGood 2 = .ok (.invokevirtual 82, 3) := by decide +kernel
theorem dX0_notesGood_5 : decode cX0_notesGood 5 = .ok (.ifCond .ne 5, 3) := by decide +kernel
theorem dX0_notesGood_8 : decode cX0_notesGood 8 = .ok (.iconst 0, 1) := by decide +kernel
theorem dX0_notesGood_9 : decode cX0_notesGood 9 = .ok (.ireturn, 1) := by decide +kernel
theorem dX0_notesGood_10 : decode cX0_notesGood 10 = .ok (.iconst 0, 1) := by decide +kernel
theorem dX0_notesGood_11 : decode cX0_notesGood 11 = .ok (.istore_n 2, 1) := by decide +kernel
theorem dX0_notesGood_12 : decode cX0_notesGood 12 = .ok (.iconst 0, 1) := by decide +kernel
theorem dX0_notesGood_13 : decode cX0_notesGood 13 = .ok (.istore_n 3, 1) := by decide +kernel
theorem dX0_notesGood_14 : decode cX0_notesGood 14 = .ok (.iload_n 3, 1) := by decide +kernel
theorem dX0_notesGood_15 : decode cX0_notesGood 15 = .ok (.bipush 100, 2) := by decide +kernel
theorem dX0_notesGood_17 : decode cX0_notesGood 17 = .ok (.if_icmp .ge 25, 3) := by decide +kernel
theorem dX0_notesGood_20 : decode cX0_notesGood 20 = .ok (.aload_n 0, 1) := by decide +kernel
theorem dX0_notesGood_21 : decode cX0_notesGood 21 = .ok (.aload_n 0, 1) := by decide +kernel
theorem dX0_notesGood_22 : decode cX0_notesGood 22 = .ok (.iload_n 1, 1) := by decide +kernel
theorem dX0_notesGood_23 : decode cX0_notesGood 23 = .ok (.iload_n 3, 1) := by decide +kernel
theorem dX0_notesGood_24 : decode cX0_notesGood 24 = .ok (.invokevirtual 75, 3) := by decide +kernel
theorem dX0_notesGood_27 : decode cX0_notesGood 27 = .ok (.invokevirtual 78, 3) := by decide +kernel
theorem dX0_notesGood_30 : decode cX0_notesGood 30 = .ok (.ifCond .eq 6, 3) := by decide +kernel
theorem dX0_notesGood_33 : decode cX0_notesGood 33 = .ok (.iinc 2 1, 3) := by decide +kernel
theorem dX0_notesGood_36 : decode cX0_notesGood 36 = .ok (.iinc 3 1, 3) := by decide +kernel
theorem dX0_notesGood_39 : decode cX0_notesGood 39 = .ok (.goto (-25), 3) := by decide +kernel
theorem dX0_notesGood_42 : decode cX0_notesGood 42 = .ok (.iload_n 2, 1) := by decide +kernel
theorem dX0_notesGood_43 : decode cX0_notesGood 43 = .ok (.ireturn, 1) := by decide +kernel
set_option maxRecDepth 20000 in
theorem ggX0_howMany_X0_isThere : GoodIn wsX0_howMany wsX0_isThere := goodIn_r _ [5, 6, 7, 8, 4, 9, 10, 11, 12, 13, 14, 15, 16, 17, 18, 19, 20, 21, 22, 23, 24] (by decide +kernel) (by decide +kernel)
set_option maxRecDepth 20000 in
theorem gX0_howMany_X0_isThere : GoodIn wsX0_howMany (wsV RX0 85 RX0 yX0_isThere wsX0_isThere) := goodIn_app (goodIn_of _ (by decide +kernel)) ggX0_howMany_X0_isThere
theorem dX0_howMany_0 : decode cX0_howMany 0 = .ok (.iconst 0, 1) := by decide +kernel
theorem dX0_howMany_1 : decode cX0_howMany 1 = .ok (.istore_n 1, 1) := by decide +kernel
theorem dX0_howMany_2 : decode cX0_howMany 2 = .ok (.iconst 0, 1) := by decide +kernel
theorem dX0_howMany_3 : decode cX0_howMany 3 = .ok (.istore_n 2, 1) := by decide +kernel
theorem dX0_howMany_4 : decode cX0_howMany 4 = .ok (.iload_n 2, 1) := by decide +kernel
theorem dX0_howMany_5 : decode cX0_howMany 5 = .ok (.iconst 4, 1) := by decide +kernel
theorem dX0_howMany_6 : decode cX0_howMany 6 = .ok (.if_icmp .ge 20, 3) := by decide +kernel
theorem dX0_howMany_9 : decode cX0_howMany 9 = .ok (.aload_n 0, 1) := by decide +kernel
theorem dX0_howMany_10 : decode cX0_howMany 10 = .ok (.iload_n 2, 1) := by decide +kernel
theorem dX0_howMany_11 : decode cX0_howMany 11 = .ok (.invokevirtual 85, 3) := by decide +kernel
theorem dX0_howMany_14 : decode cX0_howMany 14 = .ok (.ifCond .eq 6, 3) := by decide +kernel
theorem dX0_howMany_17 : decode cX0_howMany 17 = .ok (.iinc 1 1, 3) := by decide +kernel
theorem dX0_howMany_20 : decode cX0_howMany 20 = .ok (.iinc 2 1, 3) := by decide +kernel
theorem dX0_howMany_23 : decode cX0_howMany 23 = .ok (.goto (-19), 3) := by decide +kernel
theorem dX0_howMany_26 : decode cX0_howMany 26 = .ok (.iload_n 1, 1) := by decide +kernel
theorem dX0_howMany_27 : decode cX0_howMany 27 = .ok (.ireturn, 1) := by decide +kernel
set_option maxRecDepth 20000 in
theorem ggX0_howManyHidden_X0_isThere : GoodIn wsX0_howManyHidden wsX0_isThere := goodIn_r _ [5, 6, 7, 8, 4, 9, 10, 11, 12, 13, 14, 15, 16, 17, 18, 19, 46, 47, 48, 49, 50] (by decide +kernel) (by decide +kernel)
set_option maxRecDepth 20000 in
theorem gX0_howManyHidden_X0_isThere : GoodIn wsX0_howManyHidden (wsV RX0 85 RX0 yX0_isThere wsX0_isThere) := goodIn_app (goodIn_of _ (by decide +kernel)) ggX0_howManyHidden_X0_isThere
set_option maxRecDepth 20000 in
theorem ggX0_howManyHidden_X0_isHidden : GoodIn wsX0_howManyHidden wsX0_isHidden := goodIn_r _ [23, 10, 24, 25, 26, 27, 28, 29, 30, 31, 32, 33, 4, 34, 11, 12, 13, 14, 15, 16, 17, 18, 19, 35, 36, 37, 38, 39, 40, 41, 6, 7, 8, 9, 42, 43, 44, 45, 46, 47, 48, 49, 50] (by decide +kernel) (by decide +kernel)
set_option maxRecDepth 20000 in
theorem gX0_howManyHidden_X0_isHidden : GoodIn wsX0_howManyHidden (wsV RX0 82 RX0 yX0_isHidden wsX0_isHidden) := goodIn_app (goodIn_of _ (by decide +kernel)) ggX0_howManyHidden_X0_isHidden
theorem dX0_howManyHidden_0 : decode cX0_howManyHidden 0 = .ok (.iconst 0, 1) := by decide +kernel
theorem dX0_howManyHidden_1 : decode cX0_howManyHidden 1 = .ok (.istore_n 1, 1) := by decide +kernel
theorem dX0_howManyHidden_2 : decode cX0_howManyHidden 2 = .ok (.iconst 0, 1) := by decide +kernel
theorem dX0_howManyHidden_3 : decode cX0_howManyHidden 3 = .ok (.istore_n 2, 1) := by decide +kernel
theorem dX0_howManyHidden_4 : decode cX0_howManyHidden 4 = .ok (.iload_n 2, 1) := by decide +kernel
theorem dX0_howManyHidden_5 : decode cX0_howManyHidden 5 = .ok (.iconst 4, 1) := by decide +kernel
theorem dX0_howManyHidden_6 : decode cX0_howManyHidden 6 = .ok (.if_icmp .ge 28, 3) := by decide +kernel
theorem dX0_howManyHidden_9 : decode cX0_howManyHidden 9 = .ok (.aload_n 0, 1) := by decide +kernel
theorem dX0_howManyHidden_10 : decode cX0_howManyHidden 10 = .ok (.iload_n 2, 1) := by decide +kernel
theorem dX0_howManyHidden_11 : decode cX0_howManyHidden 11 = .ok (.invokevirtual 85, 3) := by decide +kernel
theorem dX0_howManyHidden_14 : decode cX0_howManyHidden 14 = .ok (.ifCond .eq 14, 3) := by decide +kernel
theorem dX0_howManyHidden_17 : decode cX0_howManyHidden 17 = .ok (.aload_n 0, 1) := by decide +kernel
theorem dX0_howManyHidden_18 : decode cX0_howManyHidden 18 = .ok (.iload_n 2, 1) := by decide +kernel
theorem dX0_howManyHidden_19 : decode cX0_howManyHidden 19 = .ok (.invokevirtual 82, 3) := by decide +kernel
theorem dX0_howManyHidden_22 : decode cX0_howManyHidden 22 = .ok (.ifCond .eq 6, 3) := by decide +kernel
theorem dX0_howManyHidden_25 : decode cX0_howManyHidden 25 = .ok (.iinc 1 1, 3) := by decide +kernel
theorem dX0_howManyHidden_28 : decode cX0_howManyHidden 28 = .ok (.iinc 2 1, 3) := by decide +kernel
theorem dX0_howManyHidden_31 : decode cX0_howManyHidden 31 = .ok (.goto (-27), 3) := by decide +kernel
theorem dX0_howManyHidden_34 : decode cX0_howManyHidden 34 = .ok (.iload_n 1, 1) := by decide +kernel
theorem dX0_howManyHidden_35 : decode cX0_howManyHidden 35 = .ok (.ireturn, 1) := by decide +kernel
set_option maxRecDepth 20000 in
theorem ggX0_howManyGood_X0_isThere : GoodIn wsX0_howManyGood wsX0_isThere := goodIn_r _ [5, 6, 7, 8, 4, 9, 10, 11, 12, 13, 14, 15, 16, 17, 18, 19, 106, 107, 108, 109, 110] (by decide +kernel) (by decide +kernel)
set_option maxRecDepth 20000 in
theorem gX0_howManyGood_X0_isThere : GoodIn wsX0_howManyGood (wsV RX0 85 RX0 yX0_isThere wsX0_isThere) := goodIn_app (goodIn_of _ (by decide +kernel)) ggX0_howManyGood_X0_isThere
set_option maxRecDepth 20000 in
theorem ggX0_howManyGood_X0_isHidden : GoodIn wsX0_howManyGood wsX0_isHidden := goodIn_r _ [23, 10, 24, 25, 26, 27, 28, 29, 30, 31, 32, 33, 4, 34, 11, 12, 13, 14, 15, 16, 17, 18, 19, 35, 36, 37, 38, 39, 40, 41, 6, 7, 8, 9, 42, 43, 44, 45, 106, 107, 108, 109, 110] (by decide +kernel) (by decide +kernel)
set_option maxRecDepth 20000 in
theorem gX0_howManyGood_X0_isHidden : GoodIn wsX0_howManyGood (wsV RX0 82 RX0 yX0_isHidden wsX0_isHidden) := goodIn_app (goodIn_of _ (by decide +kernel)) ggX0_howManyGood_X0_isHidden
set_option maxRecDepth 20000 in
theorem ggX0_howManyGood_X0_contrastOn : GoodIn wsX0_howManyGood wsX0_contrastOn := goodIn_r _ [49, 50, 51, 52, 53, 54, 55, 56, 57, 58, 25, 26, 27, 59, 29, 30, 60, 61, 62, 63, 13, 64, 65, 16, 17, 18, 19, 66, 67, 68, 69, 70, 71, 72, 73, 74, 75, 76, 77, 78, 79, 80, 81, 82, 40, 41, 31, 32, 33, 4, 34, 10, 11, 12, 14, 15, 35, 36, 37, 38, 6, 7, 8, 9, 42, 43, 44, 45, 83, 84, 85, 86, 87, 88, 89, 90, 91, 92, 93, 94, 95, 96, 97, 106, 107, 111, 112, 113, 114, 108, 109, 110] (by decide +kernel) (by decide +kernel)
set_option maxRecDepth 20000 in
theorem gX0_howManyGood_X0_contrastOn : GoodIn wsX0_howManyGood (wsV RX0 75 RX0 yX0_contrastOn wsX0_contrastOn) := goodIn_app (goodIn_of _ (by decide +kernel)) ggX0_howManyGood_X0_contrastOn
set_option maxRecDepth 20000 in
theorem ggX0_howManyGood_X0_isSeen : GoodIn wsX0_howManyGood wsX0_isSeen := goodIn_r _ [101, 102, 103, 26, 104, 10, 105, 63, 13, 64, 15, 16, 17, 18, 19, 106, 107, 108, 109, 110] (by decide +kernel) (by decide +kernel)
set_option maxRecDepth 20000 in
theorem gX0_howManyGood_X0_isSeen : GoodIn wsX0_howManyGood (wsV RX0 78 RX0 yX0_isSeen wsX0_isSeen) := goodIn_app (goodIn_of _ (by decide +kernel)) ggX0_howManyGood_X0_isSeen
theorem dX0_howManyGood_0 : decode cX0_howManyGood 0 = .ok (.iconst 0, 1) := by decide +kernel
theorem dX0_howManyGood_1 : decode cX0_howManyGood 1 = .ok (.istore_n 2, 1) := by decide +kernel
theorem dX0_howManyGood_2 : decode cX0_howManyGood 2 = .ok (.iconst 0, 1) := by decide +kernel
theorem dX0_howManyGood_3 : decode cX0_howManyGood 3 = .ok (.istore_n 3, 1) := by decide +kernel
theorem dX0_howManyGood_4 : decode cX0_howManyGood 4 = .ok (.iload_n 3, 1) := by decide +kernel
theorem dX0_howManyGood_5 : decode cX0_howManyGood 5 = .ok (.iconst 4, 1) := by decide +kernel
theorem dX0_howManyGood_6 : decode cX0_howManyGood 6 = .ok (.if_icmp .ge 41, 3) := by decide +kernel
theorem dX0_howManyGood_9 : decode cX0_howManyGood 9 = .ok (.aload_n 0, 1) := by decide +kernel
theorem dX0_howManyGood_10 : decode cX0_howManyGood 10 = .ok (.iload_n 3, 1) := by decide +kernel
theorem dX0_howManyGood_11 : decode cX0_howManyGood 11 = .ok (.invokevirtual 85, 3) := by decide +kernel
theorem dX0_howManyGood_14 : decode cX0_howManyGood 14 = .ok (.ifCond .eq 27, 3) := by decide +kernel
theorem dX0_howManyGood_17 : decode cX0_howManyGood 17 = .ok (.aload_n 0, 1) := by decide +kernel
theorem dX0_howManyGood_18 : decode cX0_howManyGood 18 = .ok (.iload_n 3, 1) := by decide +kernel
theorem dX0_howManyGood_19 : decode cX0_howManyGood 19 = .ok (.invokevirtual 82, 3) := by decide +kernel
theorem dX0_howManyGood_22 : decode cX0_howManyGood 22 = .ok (.ifCond .eq 19, 3) := by decide +kernel
theorem dX0_howManyGood_25 : decode cX0_howManyGood 25 = .ok (.aload_n 0, 1) := by decide +kernel
theorem dX0_howManyGood_26 : decode cX0_howManyGood 26 = .ok (.aload_n 0, 1) := by decide +kernel
theorem dX0_howManyGood_27 : decode cX0_howManyGood 27 = .ok (.iload_n 3, 1) := by decide +kernel
theorem dX0_howManyGood_28 : decode cX0_howManyGood 28 = .ok (.iload_n 1, 1) := by decide +kernel
theorem dX0_howManyGood_29 : decode cX0_howManyGood 29 = .ok (.invokevirtual 75, 3) := by decide +kernel
theorem dX0_howManyGood_32 : decode cX0_howManyGood 32 = .ok (.invokevirtual 78, 3) := by decide +kernel
theorem dX0_howManyGood_35 : decode cX0_howManyGood 35 = .ok (.ifCond .eq 6, 3) := by decide +kernel
theorem dX0_howManyGood_38 : decode cX0_howManyGood 38 = .ok (.iinc 2 1, 3) := by decide +kernel
theorem dX0_howManyGood_41 : decode cX0_howManyGood 41 = .ok (.iinc 3 1, 3) := by decide +kernel
theorem dX0_howManyGood_44 : decode cX0_howManyGood 44 = .ok (.goto (-40), 3) := by decide +kernel
theorem dX0_howManyGood_47 : decode cX0_howManyGood 47 = .ok (.iload_n 2, 1) := by decide +kernel
theorem dX0_howManyGood_48 : decode cX0_howManyGood 48 = .ok (.ireturn, 1) := by decide +kernel
theorem dX1_init_0 : decode cX1_init 0 = .ok (.aload_n 0, 1) := by decide +kernel
theorem dX1_init_1 : decode cX1_init 1 = .ok (.invokespecial 3, 3) := by decide +kernel
theorem dX1_init_4 : decode cX1_init 4 = .ok (.aload_n 0, 1) := by decide +kernel
theorem dX1_init_5 : decode cX1_init 5 = .ok (.bipush 72, 2) := by decide +kernel
theorem dX1_init_7 : decode cX1_init 7 = .ok (.newarray .int, 2) := by decide +kernel
theorem dX1_init_9 : decode cX1_init 9 = .ok (.putfield 9, 3) := by decide +kernel
theorem dX1_init_12 : decode cX1_init 12 = .ok (.aload_n 0, 1) := by decide +kernel
theorem dX1_init_13 : decode cX1_init 13 = .ok (.bipush 72, 2) := by decide +kernel
theorem dX1_init_15 : decode cX1_init 15 = .ok (.newarray .int, 2) := by decide +kernel
theorem dX1_init_17 : decode cX1_init 17 = .ok (.putfield 15, 3) := by decide +kernel
theorem dX1_init_20 : decode cX1_init 20 = .ok (.aload_n 0, 1) := by decide +kernel
theorem dX1_init_21 : decode cX1_init 21 = .ok (.bipush 72, 2) := by decide +kernel
theorem dX1_init_23 : decode cX1_init 23 = .ok (.newarray .int, 2) := by decide +kernel
theorem dX1_init_25 : decode cX1_init 25 = .ok (.putfield 18, 3) := by decide +kernel
theorem dX1_init_28 : decode cX1_init 28 = .ok (.aload_n 0, 1) := by decide +kernel
theorem dX1_init_29 : decode cX1_init 29 = .ok (.aload_n 1, 1) := by decide +kernel
theorem dX1_init_30 : decode cX1_init 30 = .ok (.putfield 21, 3) := by decide +kernel
theorem dX1_init_33 : decode cX1_init 33 = .ok (.return_, 1) := by decide +kernel
set_option maxRecDepth 20000 in
theorem ggX1_look_X3_settingPlace : GoodIn wsX1_look wsX3_settingPlace := goodIn_r _ [15] (by decide +kernel) (by decide +kernel)
set_option maxRecDepth 20000 in
theorem gX1_look_X3_settingPlace : GoodIn wsX1_look (va_wsS RX1 25 yX3_settingPlace wsX3_settingPlace) := goodIn_app (goodIn_of _ (by decide +kernel)) ggX1_look_X3_settingPlace
set_option maxRecDepth 20000 in
theorem ggX1_look_X3_at : GoodIn wsX1_look wsX3_at := goodIn_r _ [19, 20, 45, 46, 47] (by decide +kernel) (by decide +kernel)
set_option maxRecDepth 20000 in
theorem gX1_look_X3_at : GoodIn wsX1_look (wsV RX1 31 RX3 yX3_at wsX3_at) := goodIn_app (goodIn_of _ (by decide +kernel)) ggX1_look_X3_at
set_option maxRecDepth 20000 in
theorem ggX1_look_X1_press : GoodIn wsX1_look wsX1_press := goodIn_r _ [25, 2, 1, 26, 27, 14, 28, 16, 17, 18, 19, 20, 29, 30, 31, 32, 33, 34, 35, 36, 37, 41, 42, 43, 44, 45, 46, 47] (by decide +kernel) (by decide +kernel)
set_option maxRecDepth 20000 in
theorem gX1_look_X1_press : GoodIn wsX1_look (wsV RX1 34 RX1 yX1_press wsX1_press) := goodIn_app (goodIn_of _ (by decide +kernel)) ggX1_look_X1_press
set_option maxRecDepth 20000 in
theorem ggX1_look_X3_inkPlace : GoodIn wsX1_look wsX3_inkPlace := goodIn_r _ [40] (by decide +kernel) (by decide +kernel)
set_option maxRecDepth 20000 in
theorem gX1_look_X3_inkPlace : GoodIn wsX1_look (va_wsS RX1 47 yX3_inkPlace wsX3_inkPlace) := goodIn_app (goodIn_of _ (by decide +kernel)) ggX1_look_X3_inkPlace
theorem dX1_look_0 : decode cX1_look 0 = .ok (.aload_n 0, 1) := by decide +kernel
theorem dX1_look_1 : decode cX1_look 1 = .ok (.aload_n 0, 1) := by decide +kernel
theorem dX1_look_2 : decode cX1_look 2 = .ok (.getfield 21, 3) := by decide +kernel
theorem dX1_look_5 : decode cX1_look 5 = .ok (.iconst 0, 1) := by decide +kernel
theorem dX1_look_6 : decode cX1_look 6 = .ok (.invokestatic 25, 3) := by decide +kernel
theorem dX1_look_9 : decode cX1_look 9 = .ok (.invokevirtual 31, 3) := by decide +kernel
theorem dX1_look_12 : decode cX1_look 12 = .ok (.iload_n 1, 1) := by decide +kernel
theorem dX1_look_13 : decode cX1_look 13 = .ok (.aload_n 0, 1) := by decide +kernel
theorem dX1_look_14 : decode cX1_look 14 = .ok (.getfield 21, 3) := by decide +kernel
theorem dX1_look_17 : decode cX1_look 17 = .ok (.iconst 1, 1) := by decide +kernel
theorem dX1_look_18 : decode cX1_look 18 = .ok (.invokestatic 25, 3) := by decide +kernel
theorem dX1_look_21 : decode cX1_look 21 = .ok (.invokevirtual 31, 3) := by decide +kernel
theorem dX1_look_24 : decode cX1_look 24 = .ok (.imul, 1) := by decide +kernel
theorem dX1_look_25 : decode cX1_look 25 = .ok (.iadd, 1) := by decide +kernel
theorem dX1_look_26 : decode cX1_look 26 = .ok (.invokevirtual 34, 3) := by decide +kernel
theorem dX1_look_29 : decode cX1_look 29 = .ok (.iconst 0, 1) := by decide +kernel
theorem dX1_look_30 : decode cX1_look 30 = .ok (.istore_n 2, 1) := by decide +kernel
theorem dX1_look_31 : decode cX1_look 31 = .ok (.iload_n 2, 1) := by decide +kernel
theorem dX1_look_32 : decode cX1_look 32 = .ok (.bipush 72, 2) := by decide +kernel
theorem dX1_look_34 : decode cX1_look 34 = .ok (.if_icmp .ge 61, 3) := by decide +kernel
theorem dX1_look_37 : decode cX1_look 37 = .ok (.iconst 0, 1) := by decide +kernel
theorem dX1_look_38 : decode cX1_look 38 = .ok (.bipush 19, 2) := by decide +kernel
theorem dX1_look_40 : decode cX1_look 40 = .ok (.bipush 10, 2) := by decide +kernel
theorem dX1_look_42 : decode cX1_look 42 = .ok (.aload_n 0, 1) := by decide +kernel
theorem dX1_look_43 : decode cX1_look 43 = .ok (.getfield 9, 3) := by decide +kernel
theorem dX1_look_46 : decode cX1_look 46 = .ok (.iload_n 2, 1) := by decide +kernel
theorem dX1_look_47 : decode cX1_look 47 = .ok (.iaload, 1) := by decide +kernel
theorem dX1_look_48 : decode cX1_look 48 = .ok (.iadd, 1) := by decide +kernel
theorem dX1_look_49 : decode cX1_look 49 = .ok (.invokestatic 38, 3) := by decide +kernel
theorem dX1_look_52 : decode cX1_look 52 = .ok (.invokestatic 44, 3) := by decide +kernel
theorem dX1_look_55 : decode cX1_look 55 = .ok (.istore_n 3, 1) := by decide +kernel
theorem dX1_look_56 : decode cX1_look 56 = .ok (.aload_n 0, 1) := by decide +kernel
theorem dX1_look_57 : decode cX1_look 57 = .ok (.getfield 15, 3) := by decide +kernel
theorem dX1_look_60 : decode cX1_look 60 = .ok (.iload_n 2, 1) := by decide +kernel
theorem dX1_look_61 : decode cX1_look 61 = .ok (.iload_n 3, 1) := by decide +kernel
theorem dX1_look_62 : decode cX1_look 62 = .ok (.iastore, 1) := by decide +kernel
theorem dX1_look_63 : decode cX1_look 63 = .ok (.aload_n 0, 1) := by decide +kernel
theorem dX1_look_64 : decode cX1_look 64 = .ok (.getfield 18, 3) := by decide +kernel
theorem dX1_look_67 : decode cX1_look 67 = .ok (.iload_n 2, 1) := by decide +kernel
theorem dX1_look_68 : decode cX1_look 68 = .ok (.iload_n 3, 1) := by decide +kernel
theorem dX1_look_69 : decode cX1_look 69 = .ok (.aload_n 0, 1) := by decide +kernel
theorem dX1_look_70 : decode cX1_look 70 = .ok (.getfield 21, 3) := by decide +kernel
theorem dX1_look_73 : decode cX1_look 73 = .ok (.iload_n 2, 1) := by decide +kernel
theorem dX1_look_74 : decode cX1_look 74 = .ok (.bipush 12, 2) := by decide +kernel
theorem dX1_look_76 : decode cX1_look 76 = .ok (.idiv, 1) := by decide +kernel
theorem dX1_look_77 : decode cX1_look 77 = .ok (.iload_n 2, 1) := by decide +kernel
theorem dX1_look_78 : decode cX1_look 78 = .ok (.bipush 12, 2) := by decide +kernel
theorem dX1_look_80 : decode cX1_look 80 = .ok (.irem, 1) := by decide +kernel
theorem dX1_look_81 : decode cX1_look 81 = .ok (.invokestatic 47, 3) := by decide +kernel
theorem dX1_look_84 : decode cX1_look 84 = .ok (.invokevirtual 31, 3) := by decide +kernel
theorem dX1_look_87 : decode cX1_look 87 = .ok (.isub, 1) := by decide +kernel
theorem dX1_look_88 : decode cX1_look 88 = .ok (.iastore, 1) := by decide +kernel
theorem dX1_look_89 : decode cX1_look 89 = .ok (.iinc 2 1, 3) := by decide +kernel
theorem dX1_look_92 : decode cX1_look 92 = .ok (.goto (-61), 3) := by decide +kernel
theorem dX1_look_95 : decode cX1_look 95 = .ok (.return_, 1) := by decide +kernel
set_option maxRecDepth 20000 in
theorem ggX1_press_X3_phasePlace : GoodIn wsX1_press wsX3_phasePlace := goodIn_r _ [6] (by decide +kernel) (by decide +kernel)
set_option maxRecDepth 20000 in
theorem gX1_press_X3_phasePlace : GoodIn wsX1_press (va_wsS RX1 50 yX3_phasePlace wsX3_phasePlace) := goodIn_app (goodIn_of _ (by decide +kernel)) ggX1_press_X3_phasePlace
set_option maxRecDepth 20000 in
theorem ggX1_press_X3_at : GoodIn wsX1_press wsX3_at := goodIn_r _ [10, 11, 25, 26, 27] (by decide +kernel) (by decide +kernel)
set_option maxRecDepth 20000 in
theorem gX1_press_X3_at : GoodIn wsX1_press (wsV RX1 31 RX3 yX3_at wsX3_at) := goodIn_app (goodIn_of _ (by decide +kernel)) ggX1_press_X3_at
set_option maxRecDepth 20000 in
theorem ggX1_press_X3_circumferencePlace : GoodIn wsX1_press wsX3_circumferencePlace := goodIn_r _ [14] (by decide +kernel) (by decide +kernel)
set_option maxRecDepth 20000 in
theorem gX1_press_X3_circumferencePlace : GoodIn wsX1_press (va_wsS RX1 53 yX3_circumferencePlace wsX3_circumferencePlace) := goodIn_app (goodIn_of _ (by decide +kernel)) ggX1_press_X3_circumferencePlace
set_option maxRecDepth 20000 in
theorem ggX1_press_X5_modulo : GoodIn wsX1_press wsX5_modulo := goodIn_r _ [17] (by decide +kernel) (by decide +kernel)
set_option maxRecDepth 20000 in
theorem gX1_press_X5_modulo_n56 : GoodIn wsX1_press (wsX5_modulo) := ggX1_press_X5_modulo
set_option maxRecDepth 20000 in
theorem ggX1_press_X3_wirePlace : GoodIn wsX1_press wsX3_wirePlace := goodIn_r _ [20] (by decide +kernel) (by decide +kernel)
set_option maxRecDepth 20000 in
theorem gX1_press_X3_wirePlace : GoodIn wsX1_press (va_wsS RX1 59 yX3_wirePlace wsX3_wirePlace) := goodIn_app (goodIn_of _ (by decide +kernel)) ggX1_press_X3_wirePlace
theorem dX1_press_0 : decode cX1_press 0 = .ok (.iconst 0, 1) := by decide +kernel
theorem dX1_press_1 : decode cX1_press 1 = .ok (.istore_n 2, 1) := by decide +kernel
theorem dX1_press_2 : decode cX1_press 2 = .ok (.iload_n 2, 1) := by decide +kernel
theorem dX1_press_3 : decode cX1_press 3 = .ok (.bipush 72, 2) := by decide +kernel
theorem dX1_press_5 : decode cX1_press 5 = .ok (.if_icmp .ge 16, 3) := by decide +kernel
theorem dX1_press_8 : decode cX1_press 8 = .ok (.aload_n 0, 1) := by decide +kernel
theorem dX1_press_9 : decode cX1_press 9 = .ok (.getfield 9, 3) := by decide +kernel
theorem dX1_press_12 : decode cX1_press 12 = .ok (.iload_n 2, 1) := by decide +kernel
theorem dX1_press_13 : decode cX1_press 13 = .ok (.iconst 0, 1) := by decide +kernel
theorem dX1_press_14 : decode cX1_press 14 = .ok (.iastore, 1) := by decide +kernel
theorem dX1_press_15 : decode cX1_press 15 = .ok (.iinc 2 1, 3) := by decide +kernel
theorem dX1_press_18 : decode cX1_press 18 = .ok (.goto (-16), 3) := by decide +kernel
theorem dX1_press_21 : decode cX1_press 21 = .ok (.iconst 0, 1) := by decide +kernel
theorem dX1_press_22 : decode cX1_press 22 = .ok (.istore_n 2, 1) := by decide +kernel
theorem dX1_press_23 : decode cX1_press 23 = .ok (.iload_n 2, 1) := by decide +kernel
theorem dX1_press_24 : decode cX1_press 24 = .ok (.iconst 3, 1) := by decide +kernel
theorem dX1_press_25 : decode cX1_press 25 = .ok (.if_icmp .ge 110, 3) := by decide +kernel
theorem dX1_press_28 : decode cX1_press 28 = .ok (.iload_n 1, 1) := by decide +kernel
theorem dX1_press_29 : decode cX1_press 29 = .ok (.aload_n 0, 1) := by decide +kernel
theorem dX1_press_30 : decode cX1_press 30 = .ok (.getfield 21, 3) := by decide +kernel
theorem dX1_press_33 : decode cX1_press 33 = .ok (.iload_n 2, 1) := by decide +kernel
theorem dX1_press_34 : decode cX1_press 34 = .ok (.invokestatic 50, 3) := by decide +kernel
theorem dX1_press_37 : decode cX1_press 37 = .ok (.invokevirtual 31, 3) := by decide +kernel
theorem dX1_press_40 : decode cX1_press 40 = .ok (.iadd, 1) := by decide +kernel
theorem dX1_press_41 : decode cX1_press 41 = .ok (.istore_n 3, 1) := by decide +kernel
theorem dX1_press_42 : decode cX1_press 42 = .ok (.aload_n 0, 1) := by decide +kernel
theorem dX1_press_43 : decode cX1_press 43 = .ok (.getfield 21, 3) := by decide +kernel
theorem dX1_press_46 : decode cX1_press 46 = .ok (.iload_n 2, 1) := by decide +kernel
theorem dX1_press_47 : decode cX1_press 47 = .ok (.invokestatic 53, 3) := by decide +kernel
theorem dX1_press_50 : decode cX1_press 50 = .ok (.invokevirtual 31, 3) := by decide +kernel
theorem dX1_press_53 : decode cX1_press 53 = .ok (.istore 4, 2) := by decide +kernel
theorem dX1_press_55 : decode cX1_press 55 = .ok (.iconst 0, 1) := by decide +kernel
theorem dX1_press_56 : decode cX1_press 56 = .ok (.istore 5, 2) := by decide +kernel
theorem dX1_press_58 : decode cX1_press 58 = .ok (.iload 5, 2) := by decide +kernel
theorem dX1_press_60 : decode cX1_press 60 = .ok (.bipush 12, 2) := by decide +kernel
theorem dX1_press_62 : decode cX1_press 62 = .ok (.if_icmp .ge 67, 3) := by decide +kernel
theorem dX1_press_65 : decode cX1_press 65 = .ok (.iload_n 3, 1) := by decide +kernel
theorem dX1_press_66 : decode cX1_press 66 = .ok (.iload 5, 2) := by decide +kernel
theorem dX1_press_68 : decode cX1_press 68 = .ok (.iadd, 1) := by decide +kernel
theorem dX1_press_69 : decode cX1_press 69 = .ok (.iload 4, 2) := by decide +kernel
theorem dX1_press_71 : decode cX1_press 71 = .ok (.invokestatic 56, 3) := by decide +kernel
theorem dX1_press_74 : decode cX1_press 74 = .ok (.istore 6, 2) := by decide +kernel
theorem dX1_press_76 : decode cX1_press 76 = .ok (.iconst 0, 1) := by decide +kernel
theorem dX1_press_77 : decode cX1_press 77 = .ok (.istore 7, 2) := by decide +kernel
theorem dX1_press_79 : decode cX1_press 79 = .ok (.iload 7, 2) := by decide +kernel
theorem dX1_press_81 : decode cX1_press 81 = .ok (.bipush 6, 2) := by decide +kernel
theorem dX1_press_83 : decode cX1_press 83 = .ok (.if_icmp .ge 40, 3) := by decide +kernel
theorem dX1_press_86 : decode cX1_press 86 = .ok (.aload_n 0, 1) := by decide +kernel
theorem dX1_press_87 : decode cX1_press 87 = .ok (.getfield 9, 3) := by decide +kernel
theorem dX1_press_90 : decode cX1_press 90 = .ok (.iload 7, 2) := by decide +kernel
theorem dX1_press_92 : decode cX1_press 92 = .ok (.bipush 12, 2) := by decide +kernel
theorem dX1_press_94 : decode cX1_press 94 = .ok (.imul, 1) := by decide +kernel
theorem dX1_press_95 : decode cX1_press 95 = .ok (.iload 5, 2) := by decide +kernel
theorem dX1_press_97 : decode cX1_press 97 = .ok (.iadd, 1) := by decide +kernel
theorem dX1_press_98 : decode cX1_press 98 = .ok (.dup2, 1) := by decide +kernel
theorem dX1_press_99 : decode cX1_press 99 = .ok (.iaload, 1) := by decide +kernel
theorem dX1_press_100 : decode cX1_press 100 = .ok (.aload_n 0, 1) := by decide +kernel
theorem dX1_press_101 : decode cX1_press 101 = .ok (.getfield 21, 3) := by decide +kernel
theorem dX1_press_104 : decode cX1_press 104 = .ok (.iload_n 2, 1) := by decide +kernel
theorem dX1_press_105 : decode cX1_press 105 = .ok (.iload 7, 2) := by decide +kernel
theorem dX1_press_107 : decode cX1_press 107 = .ok (.iload 6, 2) := by decide +kernel
theorem dX1_press_109 : decode cX1_press 109 = .ok (.invokestatic 59, 3) := by decide +kernel
theorem dX1_press_112 : decode cX1_press 112 = .ok (.invokevirtual 31, 3) := by decide +kernel
theorem dX1_press_115 : decode cX1_press 115 = .ok (.iadd, 1) := by decide +kernel
theorem dX1_press_116 : decode cX1_press 116 = .ok (.iastore, 1) := by decide +kernel
theorem dX1_press_117 : decode cX1_press 117 = .ok (.iinc 7 1, 3) := by decide +kernel
theorem dX1_press_120 : decode cX1_press 120 = .ok (.goto (-41), 3) := by decide +kernel
theorem dX1_press_123 : decode cX1_press 123 = .ok (.iinc 5 1, 3) := by decide +kernel
theorem dX1_press_126 : decode cX1_press 126 = .ok (.goto (-68), 3) := by decide +kernel
theorem dX1_press_129 : decode cX1_press 129 = .ok (.iinc 2 1, 3) := by decide +kernel
theorem dX1_press_132 : decode cX1_press 132 = .ok (.goto (-109), 3) := by decide +kernel
theorem dX1_press_135 : decode cX1_press 135 = .ok (.return_, 1) := by decide +kernel
set_option maxRecDepth 20000 in
theorem ggX1_pressureAt_X5_isIndex : GoodIn wsX1_pressureAt wsX5_isIndex := goodIn_r _ [4] (by decide +kernel) (by decide +kernel)
set_option maxRecDepth 20000 in
theorem gX1_pressureAt_X5_isIndex_n63 : GoodIn wsX1_pressureAt (wsX5_isIndex) := ggX1_pressureAt_X5_isIndex
theorem dX1_pressureAt_0 : decode cX1_pressureAt 0 = .ok (.iload_n 1, 1) := by decide +kernel
theorem dX1_pressureAt_1 : decode cX1_pressureAt 1 = .ok (.bipush 12, 2) := by decide +kernel
theorem dX1_pressureAt_3 : decode cX1_pressureAt 3 = .ok (.imul, 1) := by decide +kernel
theorem dX1_pressureAt_4 : decode cX1_pressureAt 4 = .ok (.iload_n 2, 1) := by decide +kernel
theorem dX1_pressureAt_5 : decode cX1_pressureAt 5 = .ok (.iadd, 1) := by decide +kernel
theorem dX1_pressureAt_6 : decode cX1_pressureAt 6 = .ok (.istore_n 3, 1) := by decide +kernel
theorem dX1_pressureAt_7 : decode cX1_pressureAt 7 = .ok (.iload_n 3, 1) := by decide +kernel
theorem dX1_pressureAt_8 : decode cX1_pressureAt 8 = .ok (.bipush 72, 2) := by decide +kernel
theorem dX1_pressureAt_10 : decode cX1_pressureAt 10 = .ok (.invokestatic 63, 3) := by decide +kernel
theorem dX1_pressureAt_13 : decode cX1_pressureAt 13 = .ok (.ifCond .eq 12, 3) := by decide +kernel
theorem dX1_pressureAt_16 : decode cX1_pressureAt 16 = .ok (.aload_n 0, 1) := by decide +kernel
theorem dX1_pressureAt_17 : decode cX1_pressureAt 17 = .ok (.getfield 9, 3) := by decide +kernel
theorem dX1_pressureAt_20 : decode cX1_pressureAt 20 = .ok (.iload_n 3, 1) := by decide +kernel
theorem dX1_pressureAt_21 : decode cX1_pressureAt 21 = .ok (.iaload, 1) := by decide +kernel
theorem dX1_pressureAt_22 : decode cX1_pressureAt 22 = .ok (.goto 4, 3) := by decide +kernel
theorem dX1_pressureAt_25 : decode cX1_pressureAt 25 = .ok (.iconst 0, 1) := by decide +kernel
theorem dX1_pressureAt_26 : decode cX1_pressureAt 26 = .ok (.ireturn, 1) := by decide +kernel
set_option maxRecDepth 20000 in
theorem ggX1_toneAt_X5_isIndex : GoodIn wsX1_toneAt wsX5_isIndex := goodIn_r _ [4] (by decide +kernel) (by decide +kernel)
set_option maxRecDepth 20000 in
theorem gX1_toneAt_X5_isIndex_n63 : GoodIn wsX1_toneAt (wsX5_isIndex) := ggX1_toneAt_X5_isIndex
theorem dX1_toneAt_0 : decode cX1_toneAt 0 = .ok (.iload_n 1, 1) := by decide +kernel
theorem dX1_toneAt_1 : decode cX1_toneAt 1 = .ok (.bipush 12, 2) := by decide +kernel
theorem dX1_toneAt_3 : decode cX1_toneAt 3 = .ok (.imul, 1) := by decide +kernel
theorem dX1_toneAt_4 : decode cX1_toneAt 4 = .ok (.iload_n 2, 1) := by decide +kernel
theorem dX1_toneAt_5 : decode cX1_toneAt 5 = .ok (.iadd, 1) := by decide +kernel
theorem dX1_toneAt_6 : decode cX1_toneAt 6 = .ok (.istore_n 3, 1) := by decide +kernel
theorem dX1_toneAt_7 : decode cX1_toneAt 7 = .ok (.iload_n 3, 1) := by decide +kernel
theorem dX1_toneAt_8 : decode cX1_toneAt 8 = .ok (.bipush 72, 2) := by decide +kernel
theorem dX1_toneAt_10 : decode cX1_toneAt 10 = .ok (.invokestatic 63, 3) := by decide +kernel
theorem dX1_toneAt_13 : decode cX1_toneAt 13 = .ok (.ifCond .eq 12, 3) := by decide +kernel
theorem dX1_toneAt_16 : decode cX1_toneAt 16 = .ok (.aload_n 0, 1) := by decide +kernel
theorem dX1_toneAt_17 : decode cX1_toneAt 17 = .ok (.getfield 15, 3) := by decide +kernel
theorem dX1_toneAt_20 : decode cX1_toneAt 20 = .ok (.iload_n 3, 1) := by decide +kernel
theorem dX1_toneAt_21 : decode cX1_toneAt 21 = .ok (.iaload, 1) := by decide +kernel
theorem dX1_toneAt_22 : decode cX1_toneAt 22 = .ok (.goto 4, 3) := by decide +kernel
theorem dX1_toneAt_25 : decode cX1_toneAt 25 = .ok (.iconst 0, 1) := by decide +kernel
theorem dX1_toneAt_26 : decode cX1_toneAt 26 = .ok (.ireturn, 1) := by decide +kernel
set_option maxRecDepth 20000 in
theorem ggX1_lightAt_X5_isIndex : GoodIn wsX1_lightAt wsX5_isIndex := goodIn_r _ [4] (by decide +kernel) (by decide +kernel)
set_option maxRecDepth 20000 in
theorem gX1_lightAt_X5_isIndex_n63 : GoodIn wsX1_lightAt (wsX5_isIndex) := ggX1_lightAt_X5_isIndex
theorem dX1_lightAt_0 : decode cX1_lightAt 0 = .ok (.iload_n 1, 1) := by decide +kernel
theorem dX1_lightAt_1 : decode cX1_lightAt 1 = .ok (.bipush 12, 2) := by decide +kernel
theorem dX1_lightAt_3 : decode cX1_lightAt 3 = .ok (.imul, 1) := by decide +kernel
theorem dX1_lightAt_4 : decode cX1_lightAt 4 = .ok (.iload_n 2, 1) := by decide +kernel
theorem dX1_lightAt_5 : decode cX1_lightAt 5 = .ok (.iadd, 1) := by decide +kernel
theorem dX1_lightAt_6 : decode cX1_lightAt 6 = .ok (.istore_n 3, 1) := by decide +kernel
theorem dX1_lightAt_7 : decode cX1_lightAt 7 = .ok (.iload_n 3, 1) := by decide +kernel
theorem dX1_lightAt_8 : decode cX1_lightAt 8 = .ok (.bipush 72, 2) := by decide +kernel
theorem dX1_lightAt_10 : decode cX1_lightAt 10 = .ok (.invokestatic 63, 3) := by decide +kernel
theorem dX1_lightAt_13 : decode cX1_lightAt 13 = .ok (.ifCond .eq 12, 3) := by decide +kernel
theorem dX1_lightAt_16 : decode cX1_lightAt 16 = .ok (.aload_n 0, 1) := by decide +kernel
theorem dX1_lightAt_17 : decode cX1_lightAt 17 = .ok (.getfield 18, 3) := by decide +kernel
theorem dX1_lightAt_20 : decode cX1_lightAt 20 = .ok (.iload_n 3, 1) := by decide +kernel
theorem dX1_lightAt_21 : decode cX1_lightAt 21 = .ok (.iaload, 1) := by decide +kernel
theorem dX1_lightAt_22 : decode cX1_lightAt 22 = .ok (.goto 4, 3) := by decide +kernel
theorem dX1_lightAt_25 : decode cX1_lightAt 25 = .ok (.iconst 0, 1) := by decide +kernel
theorem dX1_lightAt_26 : decode cX1_lightAt 26 = .ok (.ireturn, 1) := by decide +kernel
theorem dX1_leastTone_0 : decode cX1_leastTone 0 = .ok (.bipush 19, 2) := by decide +kernel
theorem dX1_leastTone_2 : decode cX1_leastTone 2 = .ok (.istore_n 1, 1) := by decide +kernel
theorem dX1_leastTone_3 : decode cX1_leastTone 3 = .ok (.iconst 0, 1) := by decide +kernel
theorem dX1_leastTone_4 : decode cX1_leastTone 4 = .ok (.istore_n 2, 1) := by decide +kernel
theorem dX1_leastTone_5 : decode cX1_leastTone 5 = .ok (.iload_n 2, 1) := by decide +kernel
theorem dX1_leastTone_6 : decode cX1_leastTone 6 = .ok (.bipush 72, 2) := by decide +kernel
theorem dX1_leastTone_8 : decode cX1_leastTone 8 = .ok (.if_icmp .ge 20, 3) := by decide +kernel
theorem dX1_leastTone_11 : decode cX1_leastTone 11 = .ok (.iload_n 1, 1) := by decide +kernel
theorem dX1_leastTone_12 : decode cX1_leastTone 12 = .ok (.aload_n 0, 1) := by decide +kernel
theorem dX1_leastTone_13 : decode cX1_leastTone 13 = .ok (.getfield 15, 3) := by decide +kernel
theorem dX1_leastTone_16 : decode cX1_leastTone 16 = .ok (.iload_n 2, 1) := by decide +kernel
theorem dX1_leastTone_17 : decode cX1_leastTone 17 = .ok (.iaload, 1) := by decide +kernel
theorem dX1_leastTone_18 : decode cX1_leastTone 18 = .ok (.invokestatic 38, 3) := by decide +kernel
theorem dX1_leastTone_21 : decode cX1_leastTone 21 = .ok (.istore_n 1, 1) := by decide +kernel
theorem dX1_leastTone_22 : decode cX1_leastTone 22 = .ok (.iinc 2 1, 3) := by decide +kernel
theorem dX1_leastTone_25 : decode cX1_leastTone 25 = .ok (.goto (-20), 3) := by decide +kernel
theorem dX1_leastTone_28 : decode cX1_leastTone 28 = .ok (.iload_n 1, 1) := by decide +kernel
theorem dX1_leastTone_29 : decode cX1_leastTone 29 = .ok (.ireturn, 1) := by decide +kernel
theorem dX1_greatestTone_0 : decode cX1_greatestTone 0 = .ok (.iconst 0, 1) := by decide +kernel
theorem dX1_greatestTone_1 : decode cX1_greatestTone 1 = .ok (.istore_n 1, 1) := by decide +kernel
theorem dX1_greatestTone_2 : decode cX1_greatestTone 2 = .ok (.iconst 0, 1) := by decide +kernel
theorem dX1_greatestTone_3 : decode cX1_greatestTone 3 = .ok (.istore_n 2, 1) := by decide +kernel
theorem dX1_greatestTone_4 : decode cX1_greatestTone 4 = .ok (.iload_n 2, 1) := by decide +kernel
theorem dX1_greatestTone_5 : decode cX1_greatestTone 5 = .ok (.bipush 72, 2) := by decide +kernel
theorem dX1_greatestTone_7 : decode cX1_greatestTone 7 = .ok (.if_icmp .ge 20, 3) := by decide +kernel
theorem dX1_greatestTone_10 : decode cX1_greatestTone 10 = .ok (.iload_n 1, 1) := by decide +kernel
theorem dX1_greatestTone_11 : decode cX1_greatestTone 11 = .ok (.aload_n 0, 1) := by decide +kernel
theorem dX1_greatestTone_12 : decode cX1_greatestTone 12 = .ok (.getfield 15, 3) := by decide +kernel
theorem dX1_greatestTone_15 : decode cX1_greatestTone 15 = .ok (.iload_n 2, 1) := by decide +kernel
theorem dX1_greatestTone_16 : decode cX1_greatestTone 16 = .ok (.iaload, 1) := by decide +kernel
theorem dX1_greatestTone_17 : decode cX1_greatestTone 17 = .ok (.invokestatic 44, 3) := by decide +kernel
theorem dX1_greatestTone_20 : decode cX1_greatestTone 20 = .ok (.istore_n 1, 1) := by decide +kernel
theorem dX1_greatestTone_21 : decode cX1_greatestTone 21 = .ok (.iinc 2 1, 3) := by decide +kernel
theorem dX1_greatestTone_24 : decode cX1_greatestTone 24 = .ok (.goto (-20), 3) := by decide +kernel
theorem dX1_greatestTone_27 : decode cX1_greatestTone 27 = .ok (.iload_n 1, 1) := by decide +kernel
theorem dX1_greatestTone_28 : decode cX1_greatestTone 28 = .ok (.ireturn, 1) := by decide +kernel
theorem dX1_isLike_0 : decode cX1_isLike 0 = .ok (.iconst 0, 1) := by decide +kernel
theorem dX1_isLike_1 : decode cX1_isLike 1 = .ok (.istore_n 2, 1) := by decide +kernel
theorem dX1_isLike_2 : decode cX1_isLike 2 = .ok (.iload_n 2, 1) := by decide +kernel
theorem dX1_isLike_3 : decode cX1_isLike 3 = .ok (.bipush 72, 2) := by decide +kernel
theorem dX1_isLike_5 : decode cX1_isLike 5 = .ok (.if_icmp .ge 26, 3) := by decide +kernel
theorem dX1_isLike_8 : decode cX1_isLike 8 = .ok (.aload_n 0, 1) := by decide +kernel
theorem dX1_isLike_9 : decode cX1_isLike 9 = .ok (.getfield 15, 3) := by decide +kernel
theorem dX1_isLike_12 : decode cX1_isLike 12 = .ok (.iload_n 2, 1) := by decide +kernel
theorem dX1_isLike_13 : decode cX1_isLike 13 = .ok (.iaload, 1) := by decide +kernel
theorem dX1_isLike_14 : decode cX1_isLike 14 = .ok (.aload_n 1, 1) := by decide +kernel
theorem dX1_isLike_15 : decode cX1_isLike 15 = .ok (.getfield 15, 3) := by decide +kernel
theorem dX1_isLike_18 : decode cX1_isLike 18 = .ok (.iload_n 2, 1) := by decide +kernel
theorem dX1_isLike_19 : decode cX1_isLike 19 = .ok (.iaload, 1) := by decide +kernel
theorem dX1_isLike_20 : decode cX1_isLike 20 = .ok (.if_icmp .eq 5, 3) := by decide +kernel
theorem dX1_isLike_23 : decode cX1_isLike 23 = .ok (.iconst 0, 1) := by decide +kernel
theorem dX1_isLike_24 : decode cX1_isLike 24 = .ok (.ireturn, 1) := by decide +kernel
theorem dX1_isLike_25 : decode cX1_isLike 25 = .ok (.iinc 2 1, 3) := by decide +kernel
theorem dX1_isLike_28 : decode cX1_isLike 28 = .ok (.goto (-26), 3) := by decide +kernel
theorem dX1_isLike_31 : decode cX1_isLike 31 = .ok (.iconst 1, 1) := by decide +kernel
theorem dX1_isLike_32 : decode cX1_isLike 32 = .ok (.ireturn, 1) := by decide +kernel
set_option maxRecDepth 20000 in
theorem ggX1_contrastOf_X1_cellsOfFrame : GoodIn wsX1_contrastOf wsX1_cellsOfFrame := goodIn_r _ [4, 5, 6, 7, 8, 9, 10, 11] (by decide +kernel) (by decide +kernel)
set_option maxRecDepth 20000 in
theorem gX1_contrastOf_X1_cellsOfFrame : GoodIn wsX1_contrastOf (va_wsS RX1 67 yX1_cellsOfFrame wsX1_cellsOfFrame) := goodIn_app (goodIn_of _ (by decide +kernel)) ggX1_contrastOf_X1_cellsOfFrame
set_option maxRecDepth 20000 in
theorem ggX1_contrastOf_X1_lightOf : GoodIn wsX1_contrastOf wsX1_lightOf := goodIn_r _ [15, 9, 10, 7, 11, 5, 6, 8, 16, 21, 22, 23, 24] (by decide +kernel) (by decide +kernel)
set_option maxRecDepth 20000 in
theorem gX1_contrastOf_X1_lightOf : GoodIn wsX1_contrastOf (wsV RX1 71 RX1 yX1_lightOf wsX1_lightOf) := goodIn_app (goodIn_of _ (by decide +kernel)) ggX1_contrastOf_X1_lightOf
set_option maxRecDepth 20000 in
theorem ggX1_contrastOf_J9_floorDiv_7cf53 : GoodIn wsX1_contrastOf wsJ9_floorDiv_7cf53 := goodIn_r _ [20] (by decide +kernel) (by decide +kernel)
set_option maxRecDepth 20000 in
theorem gX1_contrastOf_J9_floorDiv_7cf53 : GoodIn wsX1_contrastOf (va_wsS RX1 74 yJ9_floorDiv_7cf53 wsJ9_floorDiv_7cf53) := goodIn_app (goodIn_of _ (by decide +kernel)) ggX1_contrastOf_J9_floorDiv_7cf53
theorem dX1_contrastOf_0 : decode cX1_contrastOf 0 = .ok (.iload_n 3, 1) := by decide +kernel
theorem dX1_contrastOf_1 : decode cX1_contrastOf 1 = .ok (.iload 4, 2) := by decide +kernel
theorem dX1_contrastOf_3 : decode cX1_contrastOf 3 = .ok (.imul, 1) := by decide +kernel
theorem dX1_contrastOf_4 : decode cX1_contrastOf 4 = .ok (.istore 5, 2) := by decide +kernel
theorem dX1_contrastOf_6 : decode cX1_contrastOf 6 = .ok (.iload_n 1, 1) := by decide +kernel
theorem dX1_contrastOf_7 : decode cX1_contrastOf 7 = .ok (.iload_n 2, 1) := by decide +kernel
theorem dX1_contrastOf_8 : decode cX1_contrastOf 8 = .ok (.iload_n 3, 1) := by decide +kernel
theorem dX1_contrastOf_9 : decode cX1_contrastOf 9 = .ok (.iload 4, 2) := by decide +kernel
theorem dX1_contrastOf_11 : decode cX1_contrastOf 11 = .ok (.invokestatic 67, 3) := by decide +kernel
theorem dX1_contrastOf_14 : decode cX1_contrastOf 14 = .ok (.istore 6, 2) := by decide +kernel
theorem dX1_contrastOf_16 : decode cX1_contrastOf 16 = .ok (.iload 5, 2) := by decide +kernel
theorem dX1_contrastOf_18 : decode cX1_contrastOf 18 = .ok (.iconst 1, 1) := by decide +kernel
theorem dX1_contrastOf_19 : decode cX1_contrastOf 19 = .ok (.if_icmp .lt 9, 3) := by decide +kernel
theorem dX1_contrastOf_22 : decode cX1_contrastOf 22 = .ok (.iload 6, 2) := by decide +kernel
theorem dX1_contrastOf_24 : decode cX1_contrastOf 24 = .ok (.iconst 1, 1) := by decide +kernel
theorem dX1_contrastOf_25 : decode cX1_contrastOf 25 = .ok (.if_icmp .ge 5, 3) := by decide +kernel
theorem dX1_contrastOf_28 : decode cX1_contrastOf 28 = .ok (.iconst 0, 1) := by decide +kernel
theorem dX1_contrastOf_29 : decode cX1_contrastOf 29 = .ok (.ireturn, 1) := by decide +kernel
theorem dX1_contrastOf_30 : decode cX1_contrastOf 30 = .ok (.aload_n 0, 1) := by decide +kernel
theorem dX1_contrastOf_31 : decode cX1_contrastOf 31 = .ok (.iload_n 1, 1) := by decide +kernel
theorem dX1_contrastOf_32 : decode cX1_contrastOf 32 = .ok (.iload_n 2, 1) := by decide +kernel
theorem dX1_contrastOf_33 : decode cX1_contrastOf 33 = .ok (.iload_n 1, 1) := by decide +kernel
theorem dX1_contrastOf_34 : decode cX1_contrastOf 34 = .ok (.iload_n 3, 1) := by decide +kernel
theorem dX1_contrastOf_35 : decode cX1_contrastOf 35 = .ok (.iadd, 1) := by decide +kernel
theorem dX1_contrastOf_36 : decode cX1_contrastOf 36 = .ok (.iload_n 2, 1) := by decide +kernel
theorem dX1_contrastOf_37 : decode cX1_contrastOf 37 = .ok (.iload 4, 2) := by decide +kernel
theorem dX1_contrastOf_39 : decode cX1_contrastOf 39 = .ok (.iadd, 1) := by decide +kernel
theorem dX1_contrastOf_40 : decode cX1_contrastOf 40 = .ok (.invokevirtual 71, 3) := by decide +kernel
theorem dX1_contrastOf_43 : decode cX1_contrastOf 43 = .ok (.istore 7, 2) := by decide +kernel
theorem dX1_contrastOf_45 : decode cX1_contrastOf 45 = .ok (.aload_n 0, 1) := by decide +kernel
theorem dX1_contrastOf_46 : decode cX1_contrastOf 46 = .ok (.iload_n 1, 1) := by decide +kernel
theorem dX1_contrastOf_47 : decode cX1_contrastOf 47 = .ok (.iconst 1, 1) := by decide +kernel
theorem dX1_contrastOf_48 : decode cX1_contrastOf 48 = .ok (.isub, 1) := by decide +kernel
theorem dX1_contrastOf_49 : decode cX1_contrastOf 49 = .ok (.iload_n 2, 1) := by decide +kernel
theorem dX1_contrastOf_50 : decode cX1_contrastOf 50 = .ok (.iconst 1, 1) := by decide +kernel
theorem dX1_contrastOf_51 : decode cX1_contrastOf 51 = .ok (.isub, 1) := by decide +kernel
theorem dX1_contrastOf_52 : decode cX1_contrastOf 52 = .ok (.iload_n 1, 1) := by decide +kernel
theorem dX1_contrastOf_53 : decode cX1_contrastOf 53 = .ok (.iload_n 3, 1) := by decide +kernel
theorem dX1_contrastOf_54 : decode cX1_contrastOf 54 = .ok (.iadd, 1) := by decide +kernel
theorem dX1_contrastOf_55 : decode cX1_contrastOf 55 = .ok (.iconst 1, 1) := by decide +kernel
theorem dX1_contrastOf_56 : decode cX1_contrastOf 56 = .ok (.iadd, 1) := by decide +kernel
theorem dX1_contrastOf_57 : decode cX1_contrastOf 57 = .ok (.iload_n 2, 1) := by decide +kernel
theorem dX1_contrastOf_58 : decode cX1_contrastOf 58 = .ok (.iload 4, 2) := by decide +kernel
theorem dX1_contrastOf_60 : decode cX1_contrastOf 60 = .ok (.iadd, 1) := by decide +kernel
theorem dX1_contrastOf_61 : decode cX1_contrastOf 61 = .ok (.iconst 1, 1) := by decide +kernel
theorem dX1_contrastOf_62 : decode cX1_contrastOf 62 = .ok (.iadd, 1) := by decide +kernel
theorem dX1_contrastOf_63 : decode cX1_contrastOf 63 = .ok (.invokevirtual 71, 3) := by decide +kernel
theorem dX1_contrastOf_66 : decode cX1_contrastOf 66 = .ok (.istore 8, 2) := by decide +kernel
theorem dX1_contrastOf_68 : decode cX1_contrastOf 68 = .ok (.iload 7, 2) := by decide +kernel
theorem dX1_contrastOf_70 : decode cX1_contrastOf 70 = .ok (.iload 6, 2) := by decide +kernel
theorem dX1_contrastOf_72 : decode cX1_contrastOf 72 = .ok (.imul, 1) := by decide +kernel
theorem dX1_contrastOf_73 : decode cX1_contrastOf 73 = .ok (.iload 8, 2) := by decide +kernel
theorem dX1_contrastOf_75 : decode cX1_contrastOf 75 = .ok (.iload 7, 2) := by decide +kernel
theorem dX1_contrastOf_77 : decode cX1_contrastOf 77 = .ok (.isub, 1) := by decide +kernel
theorem dX1_contrastOf_78 : decode cX1_contrastOf 78 = .ok (.iload 5, 2) := by decide +kernel
theorem dX1_contrastOf_80 : decode cX1_contrastOf 80 = .ok (.imul, 1) := by decide +kernel
theorem dX1_contrastOf_81 : decode cX1_contrastOf 81 = .ok (.isub, 1) := by decide +kernel
theorem dX1_contrastOf_82 : decode cX1_contrastOf 82 = .ok (.iload 5, 2) := by decide +kernel
theorem dX1_contrastOf_84 : decode cX1_contrastOf 84 = .ok (.iload 6, 2) := by decide +kernel
theorem dX1_contrastOf_86 : decode cX1_contrastOf 86 = .ok (.imul, 1) := by decide +kernel
theorem dX1_contrastOf_87 : decode cX1_contrastOf 87 = .ok (.invokestatic 74, 3) := by decide +kernel
theorem dX1_contrastOf_90 : decode cX1_contrastOf 90 = .ok (.ireturn, 1) := by decide +kernel
theorem dX1_lightOf_0 : decode cX1_lightOf 0 = .ok (.iconst 0, 1) := by decide +kernel
theorem dX1_lightOf_1 : decode cX1_lightOf 1 = .ok (.istore 5, 2) := by decide +kernel
theorem dX1_lightOf_3 : decode cX1_lightOf 3 = .ok (.iload_n 1, 1) := by decide +kernel
theorem dX1_lightOf_4 : decode cX1_lightOf 4 = .ok (.iconst 0, 1) := by decide +kernel
theorem dX1_lightOf_5 : decode cX1_lightOf 5 = .ok (.invokestatic 44, 3) := by decide +kernel
theorem dX1_lightOf_8 : decode cX1_lightOf 8 = .ok (.istore 6, 2) := by decide +kernel
theorem dX1_lightOf_10 : decode cX1_lightOf 10 = .ok (.iload 6, 2) := by decide +kernel
theorem dX1_lightOf_12 : decode cX1_lightOf 12 = .ok (.iload_n 3, 1) := by decide +kernel
theorem dX1_lightOf_13 : decode cX1_lightOf 13 = .ok (.bipush 6, 2) := by decide +kernel
theorem dX1_lightOf_15 : decode cX1_lightOf 15 = .ok (.invokestatic 38, 3) := by decide +kernel
theorem dX1_lightOf_18 : decode cX1_lightOf 18 = .ok (.if_icmp .ge 52, 3) := by decide +kernel
theorem dX1_lightOf_21 : decode cX1_lightOf 21 = .ok (.iload_n 2, 1) := by decide +kernel
theorem dX1_lightOf_22 : decode cX1_lightOf 22 = .ok (.iconst 0, 1) := by decide +kernel
theorem dX1_lightOf_23 : decode cX1_lightOf 23 = .ok (.invokestatic 44, 3) := by decide +kernel
theorem dX1_lightOf_26 : decode cX1_lightOf 26 = .ok (.istore 7, 2) := by decide +kernel
theorem dX1_lightOf_28 : decode cX1_lightOf 28 = .ok (.iload 7, 2) := by decide +kernel
theorem dX1_lightOf_30 : decode cX1_lightOf 30 = .ok (.iload 4, 2) := by decide +kernel
theorem dX1_lightOf_32 : decode cX1_lightOf 32 = .ok (.bipush 12, 2) := by decide +kernel
theorem dX1_lightOf_34 : decode cX1_lightOf 34 = .ok (.invokestatic 38, 3) := by decide +kernel
theorem dX1_lightOf_37 : decode cX1_lightOf 37 = .ok (.if_icmp .ge 27, 3) := by decide +kernel
theorem dX1_lightOf_40 : decode cX1_lightOf 40 = .ok (.iload 5, 2) := by decide +kernel
theorem dX1_lightOf_42 : decode cX1_lightOf 42 = .ok (.aload_n 0, 1) := by decide +kernel
theorem dX1_lightOf_43 : decode cX1_lightOf 43 = .ok (.getfield 18, 3) := by decide +kernel
theorem dX1_lightOf_46 : decode cX1_lightOf 46 = .ok (.iload 6, 2) := by decide +kernel
theorem dX1_lightOf_48 : decode cX1_lightOf 48 = .ok (.bipush 12, 2) := by decide +kernel
theorem dX1_lightOf_50 : decode cX1_lightOf 50 = .ok (.imul, 1) := by decide +kernel
theorem dX1_lightOf_51 : decode cX1_lightOf 51 = .ok (.iload 7, 2) := by decide +kernel
theorem dX1_lightOf_53 : decode cX1_lightOf 53 = .ok (.iadd, 1) := by decide +kernel
theorem dX1_lightOf_54 : decode cX1_lightOf 54 = .ok (.iaload, 1) := by decide +kernel
theorem dX1_lightOf_55 : decode cX1_lightOf 55 = .ok (.iadd, 1) := by decide +kernel
theorem dX1_lightOf_56 : decode cX1_lightOf 56 = .ok (.istore 5, 2) := by decide +kernel
theorem dX1_lightOf_58 : decode cX1_lightOf 58 = .ok (.iinc 7 1, 3) := by decide +kernel
theorem dX1_lightOf_61 : decode cX1_lightOf 61 = .ok (.goto (-33), 3) := by decide +kernel
theorem dX1_lightOf_64 : decode cX1_lightOf 64 = .ok (.iinc 6 1, 3) := by decide +kernel
theorem dX1_lightOf_67 : decode cX1_lightOf 67 = .ok (.goto (-57), 3) := by decide +kernel
theorem dX1_lightOf_70 : decode cX1_lightOf 70 = .ok (.iload 5, 2) := by decide +kernel
theorem dX1_lightOf_72 : decode cX1_lightOf 72 = .ok (.ireturn, 1) := by decide +kernel
theorem dX1_cellsOfFrame_0 : decode cX1_cellsOfFrame 0 = .ok (.iload_n 0, 1) := by decide +kernel
theorem dX1_cellsOfFrame_1 : decode cX1_cellsOfFrame 1 = .ok (.iload_n 2, 1) := by decide +kernel
theorem dX1_cellsOfFrame_2 : decode cX1_cellsOfFrame 2 = .ok (.iadd, 1) := by decide +kernel
theorem dX1_cellsOfFrame_3 : decode cX1_cellsOfFrame 3 = .ok (.iconst 1, 1) := by decide +kernel
theorem dX1_cellsOfFrame_4 : decode cX1_cellsOfFrame 4 = .ok (.iadd, 1) := by decide +kernel
theorem dX1_cellsOfFrame_5 : decode cX1_cellsOfFrame 5 = .ok (.bipush 6, 2) := by decide +kernel
theorem dX1_cellsOfFrame_7 : decode cX1_cellsOfFrame 7 = .ok (.invokestatic 38, 3) := by decide +kernel
theorem dX1_cellsOfFrame_10 : decode cX1_cellsOfFrame 10 = .ok (.iload_n 0, 1) := by decide +kernel
theorem dX1_cellsOfFrame_11 : decode cX1_cellsOfFrame 11 = .ok (.iconst 1, 1) := by decide +kernel
theorem dX1_cellsOfFrame_12 : decode cX1_cellsOfFrame 12 = .ok (.isub, 1) := by decide +kernel
theorem dX1_cellsOfFrame_13 : decode cX1_cellsOfFrame 13 = .ok (.iconst 0, 1) := by decide +kernel
theorem dX1_cellsOfFrame_14 : decode cX1_cellsOfFrame 14 = .ok (.invokestatic 44, 3) := by decide +kernel
theorem dX1_cellsOfFrame_17 : decode cX1_cellsOfFrame 17 = .ok (.isub, 1) := by decide +kernel
theorem dX1_cellsOfFrame_18 : decode cX1_cellsOfFrame 18 = .ok (.istore 4, 2) := by decide +kernel
theorem dX1_cellsOfFrame_20 : decode cX1_cellsOfFrame 20 = .ok (.iload_n 1, 1) := by decide +kernel
theorem dX1_cellsOfFrame_21 : decode cX1_cellsOfFrame 21 = .ok (.iload_n 3, 1) := by decide +kernel
theorem dX1_cellsOfFrame_22 : decode cX1_cellsOfFrame 22 = .ok (.iadd, 1) := by decide +kernel
theorem dX1_cellsOfFrame_23 : decode cX1_cellsOfFrame 23 = .ok (.iconst 1, 1) := by decide +kernel
theorem dX1_cellsOfFrame_24 : decode cX1_cellsOfFrame 24 = .ok (.iadd, 1) := by decide +kernel
theorem dX1_cellsOfFrame_25 : decode cX1_cellsOfFrame 25 = .ok (.bipush 12, 2) := by decide +kernel
theorem dX1_cellsOfFrame_27 : decode cX1_cellsOfFrame 27 = .ok (.invokestatic 38, 3) := by decide +kernel
theorem dX1_cellsOfFrame_30 : decode cX1_cellsOfFrame 30 = .ok (.iload_n 1, 1) := by decide +kernel
theorem dX1_cellsOfFrame_31 : decode cX1_cellsOfFrame 31 = .ok (.iconst 1, 1) := by decide +kernel
theorem dX1_cellsOfFrame_32 : decode cX1_cellsOfFrame 32 = .ok (.isub, 1) := by decide +kernel
theorem dX1_cellsOfFrame_33 : decode cX1_cellsOfFrame 33 = .ok (.iconst 0, 1) := by decide +kernel
theorem dX1_cellsOfFrame_34 : decode cX1_cellsOfFrame 34 = .ok (.invokestatic 44, 3) := by decide +kernel
theorem dX1_cellsOfFrame_37 : decode cX1_cellsOfFrame 37 = .ok (.isub, 1) := by decide +kernel
theorem dX1_cellsOfFrame_38 : decode cX1_cellsOfFrame 38 = .ok (.istore 5, 2) := by decide +kernel
theorem dX1_cellsOfFrame_40 : decode cX1_cellsOfFrame 40 = .ok (.iload 4, 2) := by decide +kernel
theorem dX1_cellsOfFrame_42 : decode cX1_cellsOfFrame 42 = .ok (.iload 5, 2) := by decide +kernel
theorem dX1_cellsOfFrame_44 : decode cX1_cellsOfFrame 44 = .ok (.imul, 1) := by decide +kernel
theorem dX1_cellsOfFrame_45 : decode cX1_cellsOfFrame 45 = .ok (.iload_n 2, 1) := by decide +kernel
theorem dX1_cellsOfFrame_46 : decode cX1_cellsOfFrame 46 = .ok (.iload_n 3, 1) := by decide +kernel
theorem dX1_cellsOfFrame_47 : decode cX1_cellsOfFrame 47 = .ok (.imul, 1) := by decide +kernel
theorem dX1_cellsOfFrame_48 : decode cX1_cellsOfFrame 48 = .ok (.isub, 1) := by decide +kernel
theorem dX1_cellsOfFrame_49 : decode cX1_cellsOfFrame 49 = .ok (.ireturn, 1) := by decide +kernel
theorem dX2_init_0 : decode cX2_init 0 = .ok (.aload_n 0, 1) := by decide +kernel
theorem dX2_init_1 : decode cX2_init 1 = .ok (.invokespecial 3, 3) := by decide +kernel
theorem dX2_init_4 : decode cX2_init 4 = .ok (.aload_n 0, 1) := by decide +kernel
theorem dX2_init_5 : decode cX2_init 5 = .ok (.aload_n 1, 1) := by decide +kernel
theorem dX2_init_6 : decode cX2_init 6 = .ok (.putfield 9, 3) := by decide +kernel
theorem dX2_init_9 : decode cX2_init 9 = .ok (.return_, 1) := by decide +kernel
set_option maxRecDepth 20000 in
theorem ggX2_turnTo_X3_circumferencePlace : GoodIn wsX2_turnTo wsX3_circumferencePlace := goodIn_r _ [5] (by decide +kernel) (by decide +kernel)
set_option maxRecDepth 20000 in
theorem gX2_turnTo_X3_circumferencePlace : GoodIn wsX2_turnTo (va_wsS RX2 15 yX3_circumferencePlace wsX3_circumferencePlace) := goodIn_app (goodIn_of _ (by decide +kernel)) ggX2_turnTo_X3_circumferencePlace
set_option maxRecDepth 20000 in
theorem ggX2_turnTo_X3_at : GoodIn wsX2_turnTo wsX3_at := goodIn_r _ [9, 10, 22, 23, 24] (by decide +kernel) (by decide +kernel)
set_option maxRecDepth 20000 in
theorem gX2_turnTo_X3_at : GoodIn wsX2_turnTo (wsV RX2 21 RX3 yX3_at wsX3_at) := goodIn_app (goodIn_of _ (by decide +kernel)) ggX2_turnTo_X3_at
set_option maxRecDepth 20000 in
theorem ggX2_turnTo_X3_phasePlace : GoodIn wsX2_turnTo wsX3_phasePlace := goodIn_r _ [13] (by decide +kernel) (by decide +kernel)
set_option maxRecDepth 20000 in
theorem gX2_turnTo_X3_phasePlace : GoodIn wsX2_turnTo (va_wsS RX2 24 yX3_phasePlace wsX3_phasePlace) := goodIn_app (goodIn_of _ (by decide +kernel)) ggX2_turnTo_X3_phasePlace
set_option maxRecDepth 20000 in
theorem ggX2_turnTo_X5_modulo : GoodIn wsX2_turnTo wsX5_modulo := goodIn_r _ [16] (by decide +kernel) (by decide +kernel)
set_option maxRecDepth 20000 in
theorem gX2_turnTo_X5_modulo_n27 : GoodIn wsX2_turnTo (wsX5_modulo) := ggX2_turnTo_X5_modulo
set_option maxRecDepth 20000 in
theorem ggX2_turnTo_X3_put : GoodIn wsX2_turnTo wsX3_put := goodIn_r _ [20, 10, 22, 23, 24] (by decide +kernel) (by decide +kernel)
set_option maxRecDepth 20000 in
theorem gX2_turnTo_X3_put : GoodIn wsX2_turnTo (wsV RX2 31 RX3 yX3_put wsX3_put) := goodIn_app (goodIn_of _ (by decide +kernel)) ggX2_turnTo_X3_put
theorem dX2_turnTo_0 : decode cX2_turnTo 0 = .ok (.aload_n 0, 1) := by decide +kernel
theorem dX2_turnTo_1 : decode cX2_turnTo 1 = .ok (.getfield 9, 3) := by decide +kernel
theorem dX2_turnTo_4 : decode cX2_turnTo 4 = .ok (.iload_n 1, 1) := by decide +kernel
theorem dX2_turnTo_5 : decode cX2_turnTo 5 = .ok (.invokestatic 15, 3) := by decide +kernel
theorem dX2_turnTo_8 : decode cX2_turnTo 8 = .ok (.invokevirtual 21, 3) := by decide +kernel
theorem dX2_turnTo_11 : decode cX2_turnTo 11 = .ok (.istore_n 3, 1) := by decide +kernel
theorem dX2_turnTo_12 : decode cX2_turnTo 12 = .ok (.aload_n 0, 1) := by decide +kernel
theorem dX2_turnTo_13 : decode cX2_turnTo 13 = .ok (.getfield 9, 3) := by decide +kernel
theorem dX2_turnTo_16 : decode cX2_turnTo 16 = .ok (.iload_n 1, 1) := by decide +kernel
theorem dX2_turnTo_17 : decode cX2_turnTo 17 = .ok (.invokestatic 24, 3) := by decide +kernel
theorem dX2_turnTo_20 : decode cX2_turnTo 20 = .ok (.iload_n 2, 1) := by decide +kernel
theorem dX2_turnTo_21 : decode cX2_turnTo 21 = .ok (.iload_n 3, 1) := by decide +kernel
theorem dX2_turnTo_22 : decode cX2_turnTo 22 = .ok (.invokestatic 27, 3) := by decide +kernel
theorem dX2_turnTo_25 : decode cX2_turnTo 25 = .ok (.invokevirtual 31, 3) := by decide +kernel
theorem dX2_turnTo_28 : decode cX2_turnTo 28 = .ok (.return_, 1) := by decide +kernel
set_option maxRecDepth 20000 in
theorem ggX2_wiresUpTo_X3_wirePlace : GoodIn wsX2_wiresUpTo wsX3_wirePlace := goodIn_r _ [5] (by decide +kernel) (by decide +kernel)
set_option maxRecDepth 20000 in
theorem gX2_wiresUpTo_X3_wirePlace : GoodIn wsX2_wiresUpTo (va_wsS RX2 35 yX3_wirePlace wsX3_wirePlace) := goodIn_app (goodIn_of _ (by decide +kernel)) ggX2_wiresUpTo_X3_wirePlace
set_option maxRecDepth 20000 in
theorem ggX2_wiresUpTo_X3_at : GoodIn wsX2_wiresUpTo wsX3_at := goodIn_r _ [9, 10, 12, 13, 14] (by decide +kernel) (by decide +kernel)
set_option maxRecDepth 20000 in
theorem gX2_wiresUpTo_X3_at : GoodIn wsX2_wiresUpTo (wsV RX2 21 RX3 yX3_at wsX3_at) := goodIn_app (goodIn_of _ (by decide +kernel)) ggX2_wiresUpTo_X3_at
theorem dX2_wiresUpTo_0 : decode cX2_wiresUpTo 0 = .ok (.iconst 0, 1) := by decide +kernel
theorem dX2_wiresUpTo_1 : decode cX2_wiresUpTo 1 = .ok (.istore_n 3, 1) := by decide +kernel
theorem dX2_wiresUpTo_2 : decode cX2_wiresUpTo 2 = .ok (.iconst 0, 1) := by decide +kernel
theorem dX2_wiresUpTo_3 : decode cX2_wiresUpTo 3 = .ok (.istore 4, 2) := by decide +kernel
theorem dX2_wiresUpTo_5 : decode cX2_wiresUpTo 5 = .ok (.iload 4, 2) := by decide +kernel
theorem dX2_wiresUpTo_7 : decode cX2_wiresUpTo 7 = .ok (.bipush 6, 2) := by decide +kernel
theorem dX2_wiresUpTo_9 : decode cX2_wiresUpTo 9 = .ok (.if_icmp .ge 45, 3) := by decide +kernel
theorem dX2_wiresUpTo_12 : decode cX2_wiresUpTo 12 = .ok (.iconst 0, 1) := by decide +kernel
theorem dX2_wiresUpTo_13 : decode cX2_wiresUpTo 13 = .ok (.istore 5, 2) := by decide +kernel
theorem dX2_wiresUpTo_15 : decode cX2_wiresUpTo 15 = .ok (.iload 5, 2) := by decide +kernel
theorem dX2_wiresUpTo_17 : decode cX2_wiresUpTo 17 = .ok (.iload_n 2, 1) := by decide +kernel
theorem dX2_wiresUpTo_18 : decode cX2_wiresUpTo 18 = .ok (.if_icmp .ge 30, 3) := by decide +kernel
theorem dX2_wiresUpTo_21 : decode cX2_wiresUpTo 21 = .ok (.aload_n 0, 1) := by decide +kernel
theorem dX2_wiresUpTo_22 : decode cX2_wiresUpTo 22 = .ok (.getfield 9, 3) := by decide +kernel
theorem dX2_wiresUpTo_25 : decode cX2_wiresUpTo 25 = .ok (.iload_n 1, 1) := by decide +kernel
theorem dX2_wiresUpTo_26 : decode cX2_wiresUpTo 26 = .ok (.iload 4, 2) := by decide +kernel
theorem dX2_wiresUpTo_28 : decode cX2_wiresUpTo 28 = .ok (.iload 5, 2) := by decide +kernel
theorem dX2_wiresUpTo_30 : decode cX2_wiresUpTo 30 = .ok (.invokestatic 35, 3) := by decide +kernel
theorem dX2_wiresUpTo_33 : decode cX2_wiresUpTo 33 = .ok (.invokevirtual 21, 3) := by decide +kernel
theorem dX2_wiresUpTo_36 : decode cX2_wiresUpTo 36 = .ok (.ifCond .eq 6, 3) := by decide +kernel
theorem dX2_wiresUpTo_39 : decode cX2_wiresUpTo 39 = .ok (.iinc 3 1, 3) := by decide +kernel
theorem dX2_wiresUpTo_42 : decode cX2_wiresUpTo 42 = .ok (.iinc 5 1, 3) := by decide +kernel
theorem dX2_wiresUpTo_45 : decode cX2_wiresUpTo 45 = .ok (.goto (-30), 3) := by decide +kernel
theorem dX2_wiresUpTo_48 : decode cX2_wiresUpTo 48 = .ok (.iinc 4 1, 3) := by decide +kernel
theorem dX2_wiresUpTo_51 : decode cX2_wiresUpTo 51 = .ok (.goto (-46), 3) := by decide +kernel
theorem dX2_wiresUpTo_54 : decode cX2_wiresUpTo 54 = .ok (.iload_n 3, 1) := by decide +kernel
theorem dX2_wiresUpTo_55 : decode cX2_wiresUpTo 55 = .ok (.ireturn, 1) := by decide +kernel
set_option maxRecDepth 20000 in
theorem ggX2_heightsUpTo_X3_wirePlace : GoodIn wsX2_heightsUpTo wsX3_wirePlace := goodIn_r _ [5] (by decide +kernel) (by decide +kernel)
set_option maxRecDepth 20000 in
theorem gX2_heightsUpTo_X3_wirePlace : GoodIn wsX2_heightsUpTo (va_wsS RX2 35 yX3_wirePlace wsX3_wirePlace) := goodIn_app (goodIn_of _ (by decide +kernel)) ggX2_heightsUpTo_X3_wirePlace
set_option maxRecDepth 20000 in
theorem ggX2_heightsUpTo_X3_at : GoodIn wsX2_heightsUpTo wsX3_at := goodIn_r _ [9, 10, 12, 13, 14] (by decide +kernel) (by decide +kernel)
set_option maxRecDepth 20000 in
theorem gX2_heightsUpTo_X3_at : GoodIn wsX2_heightsUpTo (wsV RX2 21 RX3 yX3_at wsX3_at) := goodIn_app (goodIn_of _ (by decide +kernel)) ggX2_heightsUpTo_X3_at
theorem dX2_heightsUpTo_0 : decode cX2_heightsUpTo 0 = .ok (.iconst 0, 1) := by decide +kernel
theorem dX2_heightsUpTo_1 : decode cX2_heightsUpTo 1 = .ok (.istore_n 3, 1) := by decide +kernel
theorem dX2_heightsUpTo_2 : decode cX2_heightsUpTo 2 = .ok (.iconst 0, 1) := by decide +kernel
theorem dX2_heightsUpTo_3 : decode cX2_heightsUpTo 3 = .ok (.istore 4, 2) := by decide +kernel
theorem dX2_heightsUpTo_5 : decode cX2_heightsUpTo 5 = .ok (.iload 4, 2) := by decide +kernel
theorem dX2_heightsUpTo_7 : decode cX2_heightsUpTo 7 = .ok (.bipush 6, 2) := by decide +kernel
theorem dX2_heightsUpTo_9 : decode cX2_heightsUpTo 9 = .ok (.if_icmp .ge 42, 3) := by decide +kernel
theorem dX2_heightsUpTo_12 : decode cX2_heightsUpTo 12 = .ok (.iconst 0, 1) := by decide +kernel
theorem dX2_heightsUpTo_13 : decode cX2_heightsUpTo 13 = .ok (.istore 5, 2) := by decide +kernel
theorem dX2_heightsUpTo_15 : decode cX2_heightsUpTo 15 = .ok (.iload 5, 2) := by decide +kernel
theorem dX2_heightsUpTo_17 : decode cX2_heightsUpTo 17 = .ok (.iload_n 2, 1) := by decide +kernel
theorem dX2_heightsUpTo_18 : decode cX2_heightsUpTo 18 = .ok (.if_icmp .ge 27, 3) := by decide +kernel
theorem dX2_heightsUpTo_21 : decode cX2_heightsUpTo 21 = .ok (.iload_n 3, 1) := by decide +kernel
theorem dX2_heightsUpTo_22 : decode cX2_heightsUpTo 22 = .ok (.aload_n 0, 1) := by decide +kernel
theorem dX2_heightsUpTo_23 : decode cX2_heightsUpTo 23 = .ok (.getfield 9, 3) := by decide +kernel
theorem dX2_heightsUpTo_26 : decode cX2_heightsUpTo 26 = .ok (.iload_n 1, 1) := by decide +kernel
theorem dX2_heightsUpTo_27 : decode cX2_heightsUpTo 27 = .ok (.iload 4, 2) := by decide +kernel
theorem dX2_heightsUpTo_29 : decode cX2_heightsUpTo 29 = .ok (.iload 5, 2) := by decide +kernel
theorem dX2_heightsUpTo_31 : decode cX2_heightsUpTo 31 = .ok (.invokestatic 35, 3) := by decide +kernel
theorem dX2_heightsUpTo_34 : decode cX2_heightsUpTo 34 = .ok (.invokevirtual 21, 3) := by decide +kernel
theorem dX2_heightsUpTo_37 : decode cX2_heightsUpTo 37 = .ok (.iadd, 1) := by decide +kernel
theorem dX2_heightsUpTo_38 : decode cX2_heightsUpTo 38 = .ok (.istore_n 3, 1) := by decide +kernel
theorem dX2_heightsUpTo_39 : decode cX2_heightsUpTo 39 = .ok (.iinc 5 1, 3) := by decide +kernel
theorem dX2_heightsUpTo_42 : decode cX2_heightsUpTo 42 = .ok (.goto (-27), 3) := by decide +kernel
theorem dX2_heightsUpTo_45 : decode cX2_heightsUpTo 45 = .ok (.iinc 4 1, 3) := by decide +kernel
theorem dX2_heightsUpTo_48 : decode cX2_heightsUpTo 48 = .ok (.goto (-43), 3) := by decide +kernel
theorem dX2_heightsUpTo_51 : decode cX2_heightsUpTo 51 = .ok (.iload_n 3, 1) := by decide +kernel
theorem dX2_heightsUpTo_52 : decode cX2_heightsUpTo 52 = .ok (.ireturn, 1) := by decide +kernel
set_option maxRecDepth 20000 in
theorem ggX2_notesAround_X3_circumferencePlace : GoodIn wsX2_notesAround wsX3_circumferencePlace := goodIn_r _ [5] (by decide +kernel) (by decide +kernel)
set_option maxRecDepth 20000 in
theorem gX2_notesAround_X3_circumferencePlace : GoodIn wsX2_notesAround (va_wsS RX2 15 yX3_circumferencePlace wsX3_circumferencePlace) := goodIn_app (goodIn_of _ (by decide +kernel)) ggX2_notesAround_X3_circumferencePlace
set_option maxRecDepth 20000 in
theorem ggX2_notesAround_X3_at : GoodIn wsX2_notesAround wsX3_at := goodIn_r _ [9, 10, 18, 19, 20] (by decide +kernel) (by decide +kernel)
set_option maxRecDepth 20000 in
theorem gX2_notesAround_X3_at : GoodIn wsX2_notesAround (wsV RX2 21 RX3 yX3_at wsX3_at) := goodIn_app (goodIn_of _ (by decide +kernel)) ggX2_notesAround_X3_at
set_option maxRecDepth 20000 in
theorem ggX2_notesAround_X5_stepsToMultiple : GoodIn wsX2_notesAround wsX5_stepsToMultiple := goodIn_r _ [13, 14, 15, 12, 16] (by decide +kernel) (by decide +kernel)
set_option maxRecDepth 20000 in
theorem gX2_notesAround_X5_stepsToMultiple_n39 : GoodIn wsX2_notesAround (wsX5_stepsToMultiple) := ggX2_notesAround_X5_stepsToMultiple
theorem dX2_notesAround_0 : decode cX2_notesAround 0 = .ok (.iload_n 2, 1) := by decide +kernel
theorem dX2_notesAround_1 : decode cX2_notesAround 1 = .ok (.aload_n 0, 1) := by decide +kernel
theorem dX2_notesAround_2 : decode cX2_notesAround 2 = .ok (.getfield 9, 3) := by decide +kernel
theorem dX2_notesAround_5 : decode cX2_notesAround 5 = .ok (.iload_n 1, 1) := by decide +kernel
theorem dX2_notesAround_6 : decode cX2_notesAround 6 = .ok (.invokestatic 15, 3) := by decide +kernel
theorem dX2_notesAround_9 : decode cX2_notesAround 9 = .ok (.invokevirtual 21, 3) := by decide +kernel
theorem dX2_notesAround_12 : decode cX2_notesAround 12 = .ok (.invokestatic 39, 3) := by decide +kernel
theorem dX2_notesAround_15 : decode cX2_notesAround 15 = .ok (.ireturn, 1) := by decide +kernel
set_option maxRecDepth 20000 in
theorem ggX2_notesAllAround_X2_notesAround : GoodIn wsX2_notesAllAround wsX2_notesAround := goodIn_r _ [5, 6, 7, 8, 9, 10, 11, 12, 13, 14, 15, 16, 17, 18, 19, 20, 21, 22, 23, 24, 25] (by decide +kernel) (by decide +kernel)
set_option maxRecDepth 20000 in
theorem gX2_notesAllAround_X2_notesAround : GoodIn wsX2_notesAllAround (wsV RX2 42 RX2 yX2_notesAround wsX2_notesAround) := goodIn_app (goodIn_of _ (by decide +kernel)) ggX2_notesAllAround_X2_notesAround
set_option maxRecDepth 20000 in
theorem ggX2_notesAllAround_X5_stepsToMultiple : GoodIn wsX2_notesAllAround wsX5_stepsToMultiple := goodIn_r _ [18, 19, 20, 17, 21] (by decide +kernel) (by decide +kernel)
set_option maxRecDepth 20000 in
theorem gX2_notesAllAround_X5_stepsToMultiple_n39 : GoodIn wsX2_notesAllAround (wsX5_stepsToMultiple) := ggX2_notesAllAround_X5_stepsToMultiple
theorem dX2_notesAllAround_0 : decode cX2_notesAllAround 0 = .ok (.iconst 1, 1) := by decide +kernel
theorem dX2_notesAllAround_1 : decode cX2_notesAllAround 1 = .ok (.istore_n 2, 1) := by decide +kernel
theorem dX2_notesAllAround_2 : decode cX2_notesAllAround 2 = .ok (.iconst 0, 1) := by decide +kernel
theorem dX2_notesAllAround_3 : decode cX2_notesAllAround 3 = .ok (.istore_n 3, 1) := by decide +kernel
theorem dX2_notesAllAround_4 : decode cX2_notesAllAround 4 = .ok (.iload_n 3, 1) := by decide +kernel
theorem dX2_notesAllAround_5 : decode cX2_notesAllAround 5 = .ok (.iconst 3, 1) := by decide +kernel
theorem dX2_notesAllAround_6 : decode cX2_notesAllAround 6 = .ok (.if_icmp .ge 22, 3) := by decide +kernel
theorem dX2_notesAllAround_9 : decode cX2_notesAllAround 9 = .ok (.iload_n 2, 1) := by decide +kernel
theorem dX2_notesAllAround_10 : decode cX2_notesAllAround 10 = .ok (.iload_n 2, 1) := by decide +kernel
theorem dX2_notesAllAround_11 : decode cX2_notesAllAround 11 = .ok (.aload_n 0, 1) := by decide +kernel
theorem dX2_notesAllAround_12 : decode cX2_notesAllAround 12 = .ok (.iload_n 3, 1) := by decide +kernel
theorem dX2_notesAllAround_13 : decode cX2_notesAllAround 13 = .ok (.iload_n 1, 1) := by decide +kernel
theorem dX2_notesAllAround_14 : decode cX2_notesAllAround 14 = .ok (.invokevirtual 42, 3) := by decide +kernel
theorem dX2_notesAllAround_17 : decode cX2_notesAllAround 17 = .ok (.invokestatic 39, 3) := by decide +kernel
theorem dX2_notesAllAround_20 : decode cX2_notesAllAround 20 = .ok (.imul, 1) := by decide +kernel
theorem dX2_notesAllAround_21 : decode cX2_notesAllAround 21 = .ok (.istore_n 2, 1) := by decide +kernel
theorem dX2_notesAllAround_22 : decode cX2_notesAllAround 22 = .ok (.iinc 3 1, 3) := by decide +kernel
theorem dX2_notesAllAround_25 : decode cX2_notesAllAround 25 = .ok (.goto (-21), 3) := by decide +kernel
theorem dX2_notesAllAround_28 : decode cX2_notesAllAround 28 = .ok (.iload_n 2, 1) := by decide +kernel
theorem dX2_notesAllAround_29 : decode cX2_notesAllAround 29 = .ok (.ireturn, 1) := by decide +kernel
theorem dX3_init_0 : decode cX3_init 0 = .ok (.aload_n 0, 1) := by decide +kernel
theorem dX3_init_1 : decode cX3_init 1 = .ok (.invokespecial 5, 3) := by decide +kernel
theorem dX3_init_4 : decode cX3_init 4 = .ok (.aload_n 0, 1) := by decide +kernel
theorem dX3_init_5 : decode cX3_init 5 = .ok (.sipush 385, 3) := by decide +kernel
theorem dX3_init_8 : decode cX3_init 8 = .ok (.newarray .int, 2) := by decide +kernel
theorem dX3_init_10 : decode cX3_init 10 = .ok (.putfield 11, 3) := by decide +kernel
theorem dX3_init_13 : decode cX3_init 13 = .ok (.aload_n 0, 1) := by decide +kernel
theorem dX3_init_14 : decode cX3_init 14 = .ok (.sipush 2310, 3) := by decide +kernel
theorem dX3_init_17 : decode cX3_init 17 = .ok (.newarray .int, 2) := by decide +kernel
theorem dX3_init_19 : decode cX3_init 19 = .ok (.putfield 15, 3) := by decide +kernel
theorem dX3_init_22 : decode cX3_init 22 = .ok (.aload_n 0, 1) := by decide +kernel
theorem dX3_init_23 : decode cX3_init 23 = .ok (.iconst 0, 1) := by decide +kernel
theorem dX3_init_24 : decode cX3_init 24 = .ok (.putfield 18, 3) := by decide +kernel
theorem dX3_init_27 : decode cX3_init 27 = .ok (.iconst 0, 1) := by decide +kernel
theorem dX3_init_28 : decode cX3_init 28 = .ok (.istore_n 1, 1) := by decide +kernel
theorem dX3_init_29 : decode cX3_init 29 = .ok (.iload_n 1, 1) := by decide +kernel
theorem dX3_init_30 : decode cX3_init 30 = .ok (.iconst 3, 1) := by decide +kernel
theorem dX3_init_31 : decode cX3_init 31 = .ok (.if_icmp .ge 21, 3) := by decide +kernel
theorem dX3_init_34 : decode cX3_init 34 = .ok (.aload_n 0, 1) := by decide +kernel
theorem dX3_init_35 : decode cX3_init 35 = .ok (.getfield 11, 3) := by decide +kernel
theorem dX3_init_38 : decode cX3_init 38 = .ok (.sipush 288, 3) := by decide +kernel
theorem dX3_init_41 : decode cX3_init 41 = .ok (.iload_n 1, 1) := by decide +kernel
theorem dX3_init_42 : decode cX3_init 42 = .ok (.iadd, 1) := by decide +kernel
theorem dX3_init_43 : decode cX3_init 43 = .ok (.bipush 12, 2) := by decide +kernel
theorem dX3_init_45 : decode cX3_init 45 = .ok (.iastore, 1) := by decide +kernel
theorem dX3_init_46 : decode cX3_init 46 = .ok (.iinc 1 1, 3) := by decide +kernel
theorem dX3_init_49 : decode cX3_init 49 = .ok (.goto (-20), 3) := by decide +kernel
theorem dX3_init_52 : decode cX3_init 52 = .ok (.aload_n 0, 1) := by decide +kernel
theorem dX3_init_53 : decode cX3_init 53 = .ok (.getfield 11, 3) := by decide +kernel
theorem dX3_init_56 : decode cX3_init 56 = .ok (.sipush 383, 3) := by decide +kernel
theorem dX3_init_59 : decode cX3_init 59 = .ok (.bipush 12, 2) := by decide +kernel
theorem dX3_init_61 : decode cX3_init 61 = .ok (.iastore, 1) := by decide +kernel
theorem dX3_init_62 : decode cX3_init 62 = .ok (.aload_n 0, 1) := by decide +kernel
theorem dX3_init_63 : decode cX3_init 63 = .ok (.getfield 11, 3) := by decide +kernel
theorem dX3_init_66 : decode cX3_init 66 = .ok (.sipush 384, 3) := by decide +kernel
theorem dX3_init_69 : decode cX3_init 69 = .ok (.iconst 2, 1) := by decide +kernel
theorem dX3_init_70 : decode cX3_init 70 = .ok (.iastore, 1) := by decide +kernel
theorem dX3_init_71 : decode cX3_init 71 = .ok (.return_, 1) := by decide +kernel
theorem dX3_wirePlace_0 : decode cX3_wirePlace 0 = .ok (.iload_n 0, 1) := by decide +kernel
theorem dX3_wirePlace_1 : decode cX3_wirePlace 1 = .ok (.bipush 6, 2) := by decide +kernel
theorem dX3_wirePlace_3 : decode cX3_wirePlace 3 = .ok (.imul, 1) := by decide +kernel
theorem dX3_wirePlace_4 : decode cX3_wirePlace 4 = .ok (.iload_n 1, 1) := by decide +kernel
theorem dX3_wirePlace_5 : decode cX3_wirePlace 5 = .ok (.iadd, 1) := by decide +kernel
theorem dX3_wirePlace_6 : decode cX3_wirePlace 6 = .ok (.bipush 16, 2) := by decide +kernel
theorem dX3_wirePlace_8 : decode cX3_wirePlace 8 = .ok (.imul, 1) := by decide +kernel
theorem dX3_wirePlace_9 : decode cX3_wirePlace 9 = .ok (.iload_n 2, 1) := by decide +kernel
theorem dX3_wirePlace_10 : decode cX3_wirePlace 10 = .ok (.iadd, 1) := by decide +kernel
theorem dX3_wirePlace_11 : decode cX3_wirePlace 11 = .ok (.ireturn, 1) := by decide +kernel
theorem dX3_circumferencePlace_0 : decode cX3_circumferencePlace 0 = .ok (.sipush 288, 3) := by decide +kernel
theorem dX3_circumferencePlace_3 : decode cX3_circumferencePlace 3 = .ok (.iload_n 0, 1) := by decide +kernel
theorem dX3_circumferencePlace_4 : decode cX3_circumferencePlace 4 = .ok (.iadd, 1) := by decide +kernel
theorem dX3_circumferencePlace_5 : decode cX3_circumferencePlace 5 = .ok (.ireturn, 1) := by decide +kernel
theorem dX3_phasePlace_0 : decode cX3_phasePlace 0 = .ok (.sipush 291, 3) := by decide +kernel
theorem dX3_phasePlace_3 : decode cX3_phasePlace 3 = .ok (.iload_n 0, 1) := by decide +kernel
theorem dX3_phasePlace_4 : decode cX3_phasePlace 4 = .ok (.iadd, 1) := by decide +kernel
theorem dX3_phasePlace_5 : decode cX3_phasePlace 5 = .ok (.ireturn, 1) := by decide +kernel
theorem dX3_inkPlace_0 : decode cX3_inkPlace 0 = .ok (.sipush 294, 3) := by decide +kernel
theorem dX3_inkPlace_3 : decode cX3_inkPlace 3 = .ok (.iload_n 0, 1) := by decide +kernel
theorem dX3_inkPlace_4 : decode cX3_inkPlace 4 = .ok (.bipush 12, 2) := by decide +kernel
theorem dX3_inkPlace_6 : decode cX3_inkPlace 6 = .ok (.imul, 1) := by decide +kernel
theorem dX3_inkPlace_7 : decode cX3_inkPlace 7 = .ok (.iadd, 1) := by decide +kernel
theorem dX3_inkPlace_8 : decode cX3_inkPlace 8 = .ok (.iload_n 1, 1) := by decide +kernel
theorem dX3_inkPlace_9 : decode cX3_inkPlace 9 = .ok (.iadd, 1) := by decide +kernel
theorem dX3_inkPlace_10 : decode cX3_inkPlace 10 = .ok (.ireturn, 1) := by decide +kernel
theorem dX3_figurePlace_0 : decode cX3_figurePlace 0 = .ok (.sipush 366, 3) := by decide +kernel
theorem dX3_figurePlace_3 : decode cX3_figurePlace 3 = .ok (.iload_n 0, 1) := by decide +kernel
theorem dX3_figurePlace_4 : decode cX3_figurePlace 4 = .ok (.iconst 4, 1) := by decide +kernel
theorem dX3_figurePlace_5 : decode cX3_figurePlace 5 = .ok (.imul, 1) := by decide +kernel
theorem dX3_figurePlace_6 : decode cX3_figurePlace 6 = .ok (.iadd, 1) := by decide +kernel
theorem dX3_figurePlace_7 : decode cX3_figurePlace 7 = .ok (.iload_n 1, 1) := by decide +kernel
theorem dX3_figurePlace_8 : decode cX3_figurePlace 8 = .ok (.iadd, 1) := by decide +kernel
theorem dX3_figurePlace_9 : decode cX3_figurePlace 9 = .ok (.ireturn, 1) := by decide +kernel
theorem dX3_settingPlace_0 : decode cX3_settingPlace 0 = .ok (.sipush 382, 3) := by decide +kernel
theorem dX3_settingPlace_3 : decode cX3_settingPlace 3 = .ok (.iload_n 0, 1) := by decide +kernel
theorem dX3_settingPlace_4 : decode cX3_settingPlace 4 = .ok (.iadd, 1) := by decide +kernel
theorem dX3_settingPlace_5 : decode cX3_settingPlace 5 = .ok (.ireturn, 1) := by decide +kernel
theorem dX3_at_0 : decode cX3_at 0 = .ok (.iload_n 1, 1) := by decide +kernel
theorem dX3_at_1 : decode cX3_at 1 = .ok (.ifCond .lt 21, 3) := by decide +kernel
theorem dX3_at_4 : decode cX3_at 4 = .ok (.iload_n 1, 1) := by decide +kernel
theorem dX3_at_5 : decode cX3_at 5 = .ok (.aload_n 0, 1) := by decide +kernel
theorem dX3_at_6 : decode cX3_at 6 = .ok (.getfield 11, 3) := by decide +kernel
theorem dX3_at_9 : decode cX3_at 9 = .ok (.arraylength, 1) := by decide +kernel
theorem dX3_at_10 : decode cX3_at 10 = .ok (.if_icmp .ge 12, 3) := by decide +kernel
theorem dX3_at_13 : decode cX3_at 13 = .ok (.aload_n 0, 1) := by decide +kernel
theorem dX3_at_14 : decode cX3_at 14 = .ok (.getfield 11, 3) := by decide +kernel
theorem dX3_at_17 : decode cX3_at 17 = .ok (.iload_n 1, 1) := by decide +kernel
theorem dX3_at_18 : decode cX3_at 18 = .ok (.iaload, 1) := by decide +kernel
theorem dX3_at_19 : decode cX3_at 19 = .ok (.goto 4, 3) := by decide +kernel
theorem dX3_at_22 : decode cX3_at 22 = .ok (.iconst 0, 1) := by decide +kernel
theorem dX3_at_23 : decode cX3_at 23 = .ok (.ireturn, 1) := by decide +kernel
theorem dX3_put_0 : decode cX3_put 0 = .ok (.iload_n 1, 1) := by decide +kernel
theorem dX3_put_1 : decode cX3_put 1 = .ok (.ifCond .lt 19, 3) := by decide +kernel
theorem dX3_put_4 : decode cX3_put 4 = .ok (.iload_n 1, 1) := by decide +kernel
theorem dX3_put_5 : decode cX3_put 5 = .ok (.aload_n 0, 1) := by decide +kernel
theorem dX3_put_6 : decode cX3_put 6 = .ok (.getfield 11, 3) := by decide +kernel
theorem dX3_put_9 : decode cX3_put 9 = .ok (.arraylength, 1) := by decide +kernel
theorem dX3_put_10 : decode cX3_put 10 = .ok (.if_icmp .ge 10, 3) := by decide +kernel
theorem dX3_put_13 : decode cX3_put 13 = .ok (.aload_n 0, 1) := by decide +kernel
theorem dX3_put_14 : decode cX3_put 14 = .ok (.getfield 11, 3) := by decide +kernel
theorem dX3_put_17 : decode cX3_put 17 = .ok (.iload_n 1, 1) := by decide +kernel
theorem dX3_put_18 : decode cX3_put 18 = .ok (.iload_n 2, 1) := by decide +kernel
theorem dX3_put_19 : decode cX3_put 19 = .ok (.iastore, 1) := by decide +kernel
theorem dX3_put_20 : decode cX3_put 20 = .ok (.return_, 1) := by decide +kernel
theorem dX3_savedStates_0 : decode cX3_savedStates 0 = .ok (.aload_n 0, 1) := by decide +kernel
theorem dX3_savedStates_1 : decode cX3_savedStates 1 = .ok (.getfield 18, 3) := by decide +kernel
theorem dX3_savedStates_4 : decode cX3_savedStates 4 = .ok (.ireturn, 1) := by decide +kernel
theorem dX3_save_0 : decode cX3_save 0 = .ok (.aload_n 0, 1) := by decide +kernel
theorem dX3_save_1 : decode cX3_save 1 = .ok (.getfield 15, 3) := by decide +kernel
theorem dX3_save_4 : decode cX3_save 4 = .ok (.iconst 0, 1) := by decide +kernel
theorem dX3_save_5 : decode cX3_save 5 = .ok (.aload_n 0, 1) := by decide +kernel
theorem dX3_save_6 : decode cX3_save 6 = .ok (.getfield 15, 3) := by decide +kernel
theorem dX3_save_9 : decode cX3_save 9 = .ok (.sipush 385, 3) := by decide +kernel
theorem dX3_save_12 : decode cX3_save 12 = .ok (.sipush 1925, 3) := by decide +kernel
theorem dX3_save_15 : decode cX3_save 15 = .ok (.invokestatic 22, 3) := by decide +kernel
theorem dX3_save_18 : decode cX3_save 18 = .ok (.aload_n 0, 1) := by decide +kernel
theorem dX3_save_19 : decode cX3_save 19 = .ok (.getfield 11, 3) := by decide +kernel
theorem dX3_save_22 : decode cX3_save 22 = .ok (.iconst 0, 1) := by decide +kernel
theorem dX3_save_23 : decode cX3_save 23 = .ok (.aload_n 0, 1) := by decide +kernel
theorem dX3_save_24 : decode cX3_save 24 = .ok (.getfield 15, 3) := by decide +kernel
theorem dX3_save_27 : decode cX3_save 27 = .ok (.iconst 0, 1) := by decide +kernel
theorem dX3_save_28 : decode cX3_save 28 = .ok (.sipush 385, 3) := by decide +kernel
theorem dX3_save_31 : decode cX3_save 31 = .ok (.invokestatic 22, 3) := by decide +kernel
theorem dX3_save_34 : decode cX3_save 34 = .ok (.aload_n 0, 1) := by decide +kernel
theorem dX3_save_35 : decode cX3_save 35 = .ok (.aload_n 0, 1) := by decide +kernel
theorem dX3_save_36 : decode cX3_save 36 = .ok (.getfield 18, 3) := by decide +kernel
theorem dX3_save_39 : decode cX3_save 39 = .ok (.iconst 1, 1) := by decide +kernel
theorem dX3_save_40 : decode cX3_save 40 = .ok (.iadd, 1) := by decide +kernel
theorem dX3_save_41 : decode cX3_save 41 = .ok (.bipush 6, 2) := by decide +kernel
theorem dX3_save_43 : decode cX3_save 43 = .ok (.invokestatic 28, 3) := by decide +kernel
theorem dX3_save_46 : decode cX3_save 46 = .ok (.putfield 18, 3) := by decide +kernel
theorem dX3_save_49 : decode cX3_save 49 = .ok (.return_, 1) := by decide +kernel
theorem dX4_init_0 : decode cX4_init 0 = .ok (.aload_n 0, 1) := by decide +kernel
theorem dX4_init_1 : decode cX4_init 1 = .ok (.invokespecial 3, 3) := by decide +kernel
theorem dX4_init_4 : decode cX4_init 4 = .ok (.aload_n 0, 1) := by decide +kernel
theorem dX4_init_5 : decode cX4_init 5 = .ok (.bipush 60, 2) := by decide +kernel
theorem dX4_init_7 : decode cX4_init 7 = .ok (.newarray .int, 2) := by decide +kernel
theorem dX4_init_9 : decode cX4_init 9 = .ok (.putfield 11, 3) := by decide +kernel
theorem dX4_init_12 : decode cX4_init 12 = .ok (.aload_n 0, 1) := by decide +kernel
theorem dX4_init_13 : decode cX4_init 13 = .ok (.iconst 0, 1) := by decide +kernel
theorem dX4_init_14 : decode cX4_init 14 = .ok (.putfield 15, 3) := by decide +kernel
theorem dX4_init_17 : decode cX4_init 17 = .ok (.return_, 1) := by decide +kernel
