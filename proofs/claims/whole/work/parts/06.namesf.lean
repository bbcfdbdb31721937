theorem dX9_put_68 : decode cX9_put 68 = .ok (.iastore, 1) := by decide +kernel
theorem dX9_put_69 : decode cX9_put 69 = .ok (.iload 5, 2) := by decide +kernel
theorem dX9_put_71 : decode cX9_put 71 = .ok (.ireturn, 1) := by decide +kernel
set_option maxRecDepth 20000 in
theorem ggX9_drop_X9_isDrawer : GoodIn wsX9_drop wsX9_isDrawer := goodIn_r _ [5, 6, 7, 4, 8] (by decide +kernel) (by decide +kernel)
set_option maxRecDepth 20000 in
theorem gX9_drop_X9_isDrawer : GoodIn wsX9_drop (va_wsS RX9 36 yX9_isDrawer wsX9_isDrawer) := goodIn_app (goodIn_of _ (by decide +kernel)) ggX9_drop_X9_isDrawer
set_option maxRecDepth 20000 in
theorem ggX9_drop_X9_isCard : GoodIn wsX9_drop wsX9_isCard := goodIn_r _ [12, 1, 22, 23, 24, 25, 26, 27, 28, 29, 30, 31, 32, 33, 34] (by decide +kernel) (by decide +kernel)
set_option maxRecDepth 20000 in
theorem gX9_drop_X9_isCard : GoodIn wsX9_drop (wsV RX9 51 RX9 yX9_isCard wsX9_isCard) := goodIn_app (goodIn_of _ (by decide +kernel)) ggX9_drop_X9_isCard
set_option maxRecDepth 20000 in
theorem ggX9_drop_X9_changes : GoodIn wsX9_drop wsX9_changes := goodIn_r _ [16, 17, 18, 1, 22, 23, 24, 25, 26, 27, 28, 29, 30, 31, 32, 33, 34] (by decide +kernel) (by decide +kernel)
set_option maxRecDepth 20000 in
theorem gX9_drop_X9_changes : GoodIn wsX9_drop (wsV RX9 40 RX9 yX9_changes wsX9_changes) := goodIn_app (goodIn_of _ (by decide +kernel)) ggX9_drop_X9_changes
set_option maxRecDepth 20000 in
theorem ggX9_drop_X9_valueAt : GoodIn wsX9_drop wsX9_valueAt := goodIn_r _ [21] (by decide +kernel) (by decide +kernel)
set_option maxRecDepth 20000 in
theorem gX9_drop_X9_valueAt : GoodIn wsX9_drop (va_wsS RX9 47 yX9_valueAt wsX9_valueAt) := goodIn_app (goodIn_of _ (by decide +kernel)) ggX9_drop_X9_valueAt
theorem dX9_drop_0 : decode cX9_drop 0 = .ok (.iload_n 1, 1) := by decide +kernel
theorem dX9_drop_1 : decode cX9_drop 1 = .ok (.invokestatic 36, 3) := by decide +kernel
theorem dX9_drop_4 : decode cX9_drop 4 = .ok (.ifCond .eq 12, 3) := by decide +kernel
theorem dX9_drop_7 : decode cX9_drop 7 = .ok (.aload_n 0, 1) := by decide +kernel
theorem dX9_drop_8 : decode cX9_drop 8 = .ok (.iload_n 1, 1) := by decide +kernel
theorem dX9_drop_9 : decode cX9_drop 9 = .ok (.iload_n 2, 1) := by decide +kernel
theorem dX9_drop_10 : decode cX9_drop 10 = .ok (.invokevirtual 51, 3) := by decide +kernel
theorem dX9_drop_13 : decode cX9_drop 13 = .ok (.ifCond .ne 6, 3) := by decide +kernel
theorem dX9_drop_16 : decode cX9_drop 16 = .ok (.bipush (-11), 2) := by decide +kernel
theorem dX9_drop_18 : decode cX9_drop 18 = .ok (.ireturn, 1) := by decide +kernel
theorem dX9_drop_19 : decode cX9_drop 19 = .ok (.aload_n 0, 1) := by decide +kernel
theorem dX9_drop_20 : decode cX9_drop 20 = .ok (.invokevirtual 40, 3) := by decide +kernel
theorem dX9_drop_23 : decode cX9_drop 23 = .ok (.aload_n 0, 1) := by decide +kernel
theorem dX9_drop_24 : decode cX9_drop 24 = .ok (.getfield 7, 3) := by decide +kernel
theorem dX9_drop_27 : decode cX9_drop 27 = .ok (.iconst 2, 1) := by decide +kernel
theorem dX9_drop_28 : decode cX9_drop 28 = .ok (.iload_n 1, 1) := by decide +kernel
theorem dX9_drop_29 : decode cX9_drop 29 = .ok (.iadd, 1) := by decide +kernel
theorem dX9_drop_30 : decode cX9_drop 30 = .ok (.dup2, 1) := by decide +kernel
theorem dX9_drop_31 : decode cX9_drop 31 = .ok (.iaload, 1) := by decide +kernel
theorem dX9_drop_32 : decode cX9_drop 32 = .ok (.iconst 1, 1) := by decide +kernel
theorem dX9_drop_33 : decode cX9_drop 33 = .ok (.isub, 1) := by decide +kernel
theorem dX9_drop_34 : decode cX9_drop 34 = .ok (.iastore, 1) := by decide +kernel
theorem dX9_drop_35 : decode cX9_drop 35 = .ok (.iload_n 1, 1) := by decide +kernel
theorem dX9_drop_36 : decode cX9_drop 36 = .ok (.iload_n 2, 1) := by decide +kernel
theorem dX9_drop_37 : decode cX9_drop 37 = .ok (.iconst 0, 1) := by decide +kernel
theorem dX9_drop_38 : decode cX9_drop 38 = .ok (.invokestatic 47, 3) := by decide +kernel
theorem dX9_drop_41 : decode cX9_drop 41 = .ok (.istore_n 3, 1) := by decide +kernel
theorem dX9_drop_42 : decode cX9_drop 42 = .ok (.iload_n 3, 1) := by decide +kernel
theorem dX9_drop_43 : decode cX9_drop 43 = .ok (.iload_n 1, 1) := by decide +kernel
theorem dX9_drop_44 : decode cX9_drop 44 = .ok (.aload_n 0, 1) := by decide +kernel
theorem dX9_drop_45 : decode cX9_drop 45 = .ok (.getfield 7, 3) := by decide +kernel
theorem dX9_drop_48 : decode cX9_drop 48 = .ok (.iconst 2, 1) := by decide +kernel
theorem dX9_drop_49 : decode cX9_drop 49 = .ok (.iload_n 1, 1) := by decide +kernel
theorem dX9_drop_50 : decode cX9_drop 50 = .ok (.iadd, 1) := by decide +kernel
theorem dX9_drop_51 : decode cX9_drop 51 = .ok (.iaload, 1) := by decide +kernel
theorem dX9_drop_52 : decode cX9_drop 52 = .ok (.iconst 0, 1) := by decide +kernel
theorem dX9_drop_53 : decode cX9_drop 53 = .ok (.invokestatic 47, 3) := by decide +kernel
theorem dX9_drop_56 : decode cX9_drop 56 = .ok (.if_icmp .ge 23, 3) := by decide +kernel
theorem dX9_drop_59 : decode cX9_drop 59 = .ok (.aload_n 0, 1) := by decide +kernel
theorem dX9_drop_60 : decode cX9_drop 60 = .ok (.getfield 7, 3) := by decide +kernel
theorem dX9_drop_63 : decode cX9_drop 63 = .ok (.iload_n 3, 1) := by decide +kernel
theorem dX9_drop_64 : decode cX9_drop 64 = .ok (.aload_n 0, 1) := by decide +kernel
theorem dX9_drop_65 : decode cX9_drop 65 = .ok (.getfield 7, 3) := by decide +kernel
theorem dX9_drop_68 : decode cX9_drop 68 = .ok (.iload_n 3, 1) := by decide +kernel
theorem dX9_drop_69 : decode cX9_drop 69 = .ok (.iconst 4, 1) := by decide +kernel
theorem dX9_drop_70 : decode cX9_drop 70 = .ok (.iadd, 1) := by decide +kernel
theorem dX9_drop_71 : decode cX9_drop 71 = .ok (.iaload, 1) := by decide +kernel
theorem dX9_drop_72 : decode cX9_drop 72 = .ok (.iastore, 1) := by decide +kernel
theorem dX9_drop_73 : decode cX9_drop 73 = .ok (.iinc 3 1, 3) := by decide +kernel
theorem dX9_drop_76 : decode cX9_drop 76 = .ok (.goto (-34), 3) := by decide +kernel
theorem dX9_drop_79 : decode cX9_drop 79 = .ok (.aload_n 0, 1) := by decide +kernel
theorem dX9_drop_80 : decode cX9_drop 80 = .ok (.getfield 7, 3) := by decide +kernel
theorem dX9_drop_83 : decode cX9_drop 83 = .ok (.iconst 2, 1) := by decide +kernel
theorem dX9_drop_84 : decode cX9_drop 84 = .ok (.iload_n 1, 1) := by decide +kernel
theorem dX9_drop_85 : decode cX9_drop 85 = .ok (.iadd, 1) := by decide +kernel
theorem dX9_drop_86 : decode cX9_drop 86 = .ok (.iaload, 1) := by decide +kernel
theorem dX9_drop_87 : decode cX9_drop 87 = .ok (.ireturn, 1) := by decide +kernel
set_option maxRecDepth 20000 in
theorem ggX9_valueOf_X9_isDrawer : GoodIn wsX9_valueOf wsX9_isDrawer := goodIn_r _ [5, 6, 7, 4, 8] (by decide +kernel) (by decide +kernel)
set_option maxRecDepth 20000 in
theorem gX9_valueOf_X9_isDrawer : GoodIn wsX9_valueOf (va_wsS RX9 36 yX9_isDrawer wsX9_isDrawer) := goodIn_app (goodIn_of _ (by decide +kernel)) ggX9_valueOf_X9_isDrawer
set_option maxRecDepth 20000 in
theorem ggX9_valueOf_X9_isCard : GoodIn wsX9_valueOf wsX9_isCard := goodIn_r _ [12, 1, 20, 21, 22, 23, 24, 25, 26, 27, 28, 29, 30, 31, 32] (by decide +kernel) (by decide +kernel)
set_option maxRecDepth 20000 in
theorem gX9_valueOf_X9_isCard : GoodIn wsX9_valueOf (wsV RX9 51 RX9 yX9_isCard wsX9_isCard) := goodIn_app (goodIn_of _ (by decide +kernel)) ggX9_valueOf_X9_isCard
set_option maxRecDepth 20000 in
theorem ggX9_valueOf_X9_isColumn : GoodIn wsX9_valueOf wsX9_isColumn := goodIn_r _ [16, 1, 20, 21, 22, 23, 24, 25, 26, 27, 28, 29, 30, 31, 32] (by decide +kernel) (by decide +kernel)
set_option maxRecDepth 20000 in
theorem gX9_valueOf_X9_isColumn : GoodIn wsX9_valueOf (wsV RX9 55 RX9 yX9_isColumn wsX9_isColumn) := goodIn_app (goodIn_of _ (by decide +kernel)) ggX9_valueOf_X9_isColumn
set_option maxRecDepth 20000 in
theorem ggX9_valueOf_X9_valueAt : GoodIn wsX9_valueOf wsX9_valueAt := goodIn_r _ [19] (by decide +kernel) (by decide +kernel)
set_option maxRecDepth 20000 in
theorem gX9_valueOf_X9_valueAt : GoodIn wsX9_valueOf (va_wsS RX9 47 yX9_valueAt wsX9_valueAt) := goodIn_app (goodIn_of _ (by decide +kernel)) ggX9_valueOf_X9_valueAt
theorem dX9_valueOf_0 : decode cX9_valueOf 0 = .ok (.iload_n 1, 1) := by decide +kernel
theorem dX9_valueOf_1 : decode cX9_valueOf 1 = .ok (.invokestatic 36, 3) := by decide +kernel
theorem dX9_valueOf_4 : decode cX9_valueOf 4 = .ok (.ifCond .eq 21, 3) := by decide +kernel
theorem dX9_valueOf_7 : decode cX9_valueOf 7 = .ok (.aload_n 0, 1) := by decide +kernel
theorem dX9_valueOf_8 : decode cX9_valueOf 8 = .ok (.iload_n 1, 1) := by decide +kernel
theorem dX9_valueOf_9 : decode cX9_valueOf 9 = .ok (.iload_n 2, 1) := by decide +kernel
theorem dX9_valueOf_10 : decode cX9_valueOf 10 = .ok (.invokevirtual 51, 3) := by decide +kernel
theorem dX9_valueOf_13 : decode cX9_valueOf 13 = .ok (.ifCond .eq 12, 3) := by decide +kernel
theorem dX9_valueOf_16 : decode cX9_valueOf 16 = .ok (.aload_n 0, 1) := by decide +kernel
theorem dX9_valueOf_17 : decode cX9_valueOf 17 = .ok (.iload_n 1, 1) := by decide +kernel
theorem dX9_valueOf_18 : decode cX9_valueOf 18 = .ok (.iload_n 3, 1) := by decide +kernel
theorem dX9_valueOf_19 : decode cX9_valueOf 19 = .ok (.invokevirtual 55, 3) := by decide +kernel
theorem dX9_valueOf_22 : decode cX9_valueOf 22 = .ok (.ifCond .ne 6, 3) := by decide +kernel
theorem dX9_valueOf_25 : decode cX9_valueOf 25 = .ok (.bipush (-11), 2) := by decide +kernel
theorem dX9_valueOf_27 : decode cX9_valueOf 27 = .ok (.ireturn, 1) := by decide +kernel
theorem dX9_valueOf_28 : decode cX9_valueOf 28 = .ok (.aload_n 0, 1) := by decide +kernel
theorem dX9_valueOf_29 : decode cX9_valueOf 29 = .ok (.getfield 7, 3) := by decide +kernel
theorem dX9_valueOf_32 : decode cX9_valueOf 32 = .ok (.iload_n 1, 1) := by decide +kernel
theorem dX9_valueOf_33 : decode cX9_valueOf 33 = .ok (.iload_n 2, 1) := by decide +kernel
theorem dX9_valueOf_34 : decode cX9_valueOf 34 = .ok (.iload_n 3, 1) := by decide +kernel
theorem dX9_valueOf_35 : decode cX9_valueOf 35 = .ok (.invokestatic 47, 3) := by decide +kernel
theorem dX9_valueOf_38 : decode cX9_valueOf 38 = .ok (.iaload, 1) := by decide +kernel
theorem dX9_valueOf_39 : decode cX9_valueOf 39 = .ok (.ireturn, 1) := by decide +kernel
set_option maxRecDepth 20000 in
theorem ggX9_isCell_X9_in : GoodIn wsX9_isCell wsX9_in := goodIn_r _ [4] (by decide +kernel) (by decide +kernel)
set_option maxRecDepth 20000 in
theorem gX9_isCell_X9_in : GoodIn wsX9_isCell (va_wsS RX9 32 yX9_in wsX9_in) := goodIn_app (goodIn_of _ (by decide +kernel)) ggX9_isCell_X9_in
theorem dX9_isCell_0 : decode cX9_isCell 0 = .ok (.iload_n 0, 1) := by decide +kernel
theorem dX9_isCell_1 : decode cX9_isCell 1 = .ok (.bipush 8, 2) := by decide +kernel
theorem dX9_isCell_3 : decode cX9_isCell 3 = .ok (.if_icmp .lt 7, 3) := by decide +kernel
theorem dX9_isCell_6 : decode cX9_isCell 6 = .ok (.iconst 3, 1) := by decide +kernel
theorem dX9_isCell_7 : decode cX9_isCell 7 = .ok (.goto 14, 3) := by decide +kernel
theorem dX9_isCell_10 : decode cX9_isCell 10 = .ok (.iload_n 0, 1) := by decide +kernel
theorem dX9_isCell_11 : decode cX9_isCell 11 = .ok (.iconst 3, 1) := by decide +kernel
theorem dX9_isCell_12 : decode cX9_isCell 12 = .ok (.if_icmp .lt 8, 3) := by decide +kernel
theorem dX9_isCell_15 : decode cX9_isCell 15 = .ok (.bipush 99, 2) := by decide +kernel
theorem dX9_isCell_17 : decode cX9_isCell 17 = .ok (.goto 4, 3) := by decide +kernel
theorem dX9_isCell_20 : decode cX9_isCell 20 = .ok (.iconst 0, 1) := by decide +kernel
theorem dX9_isCell_21 : decode cX9_isCell 21 = .ok (.istore_n 3, 1) := by decide +kernel
theorem dX9_isCell_22 : decode cX9_isCell 22 = .ok (.iload_n 0, 1) := by decide +kernel
theorem dX9_isCell_23 : decode cX9_isCell 23 = .ok (.iconst 0, 1) := by decide +kernel
theorem dX9_isCell_24 : decode cX9_isCell 24 = .ok (.bipush 10, 2) := by decide +kernel
theorem dX9_isCell_26 : decode cX9_isCell 26 = .ok (.invokestatic 32, 3) := by decide +kernel
theorem dX9_isCell_29 : decode cX9_isCell 29 = .ok (.ifCond .eq 46, 3) := by decide +kernel
theorem dX9_isCell_32 : decode cX9_isCell 32 = .ok (.iload_n 1, 1) := by decide +kernel
theorem dX9_isCell_33 : decode cX9_isCell 33 = .ok (.iconst 0, 1) := by decide +kernel
theorem dX9_isCell_34 : decode cX9_isCell 34 = .ok (.iload_n 3, 1) := by decide +kernel
theorem dX9_isCell_35 : decode cX9_isCell 35 = .ok (.invokestatic 32, 3) := by decide +kernel
theorem dX9_isCell_38 : decode cX9_isCell 38 = .ok (.ifCond .eq 37, 3) := by decide +kernel
theorem dX9_isCell_41 : decode cX9_isCell 41 = .ok (.iload_n 2, 1) := by decide +kernel
theorem dX9_isCell_42 : decode cX9_isCell 42 = .ok (.iload_n 0, 1) := by decide +kernel
theorem dX9_isCell_43 : decode cX9_isCell 43 = .ok (.bipush 7, 2) := by decide +kernel
theorem dX9_isCell_45 : decode cX9_isCell 45 = .ok (.if_icmp .ne 7, 3) := by decide +kernel
theorem dX9_isCell_48 : decode cX9_isCell 48 = .ok (.iload_n 1, 1) := by decide +kernel
theorem dX9_isCell_49 : decode cX9_isCell 49 = .ok (.goto 4, 3) := by decide +kernel
theorem dX9_isCell_52 : decode cX9_isCell 52 = .ok (.iconst 0, 1) := by decide +kernel
theorem dX9_isCell_53 : decode cX9_isCell 53 = .ok (.iload_n 0, 1) := by decide +kernel
theorem dX9_isCell_54 : decode cX9_isCell 54 = .ok (.bipush 7, 2) := by decide +kernel
theorem dX9_isCell_56 : decode cX9_isCell 56 = .ok (.if_icmp .ne 8, 3) := by decide +kernel
theorem dX9_isCell_59 : decode cX9_isCell 59 = .ok (.bipush 99, 2) := by decide +kernel
theorem dX9_isCell_61 : decode cX9_isCell 61 = .ok (.goto 4, 3) := by decide +kernel
theorem dX9_isCell_64 : decode cX9_isCell 64 = .ok (.iconst 0, 1) := by decide +kernel
theorem dX9_isCell_65 : decode cX9_isCell 65 = .ok (.invokestatic 32, 3) := by decide +kernel
theorem dX9_isCell_68 : decode cX9_isCell 68 = .ok (.ifCond .eq 7, 3) := by decide +kernel
theorem dX9_isCell_71 : decode cX9_isCell 71 = .ok (.iconst 1, 1) := by decide +kernel
theorem dX9_isCell_72 : decode cX9_isCell 72 = .ok (.goto 4, 3) := by decide +kernel
theorem dX9_isCell_75 : decode cX9_isCell 75 = .ok (.iconst 0, 1) := by decide +kernel
theorem dX9_isCell_76 : decode cX9_isCell 76 = .ok (.ireturn, 1) := by decide +kernel
set_option maxRecDepth 20000 in
theorem ggX9_cell_X9_isDrawer : GoodIn wsX9_cell wsX9_isDrawer := goodIn_r _ [4, 5, 6, 3, 7] (by decide +kernel) (by decide +kernel)
set_option maxRecDepth 20000 in
theorem gX9_cell_X9_isDrawer : GoodIn wsX9_cell (va_wsS RX9 36 yX9_isDrawer wsX9_isDrawer) := goodIn_app (goodIn_of _ (by decide +kernel)) ggX9_cell_X9_isDrawer
set_option maxRecDepth 20000 in
theorem ggX9_cell_X9_isColumn : GoodIn wsX9_cell wsX9_isColumn := goodIn_r _ [11, 12, 30, 31, 32, 33, 34, 35, 36, 37, 38, 39, 40, 41, 42] (by decide +kernel) (by decide +kernel)
set_option maxRecDepth 20000 in
theorem gX9_cell_X9_isColumn : GoodIn wsX9_cell (wsV RX9 55 RX9 yX9_isColumn wsX9_isColumn) := goodIn_app (goodIn_of _ (by decide +kernel)) ggX9_cell_X9_isColumn
set_option maxRecDepth 20000 in
theorem ggX9_cell_X9_isCell : GoodIn wsX9_cell wsX9_isCell := goodIn_r _ [15, 5, 6, 3, 7] (by decide +kernel) (by decide +kernel)
set_option maxRecDepth 20000 in
theorem gX9_cell_X9_isCell : GoodIn wsX9_cell (va_wsS RX9 58 yX9_isCell wsX9_isCell) := goodIn_app (goodIn_of _ (by decide +kernel)) ggX9_cell_X9_isCell
set_option maxRecDepth 20000 in
theorem ggX9_cell_X9_changes : GoodIn wsX9_cell wsX9_changes := goodIn_r _ [19, 20, 21, 12, 30, 31, 32, 33, 34, 35, 36, 37, 38, 39, 40, 41, 42] (by decide +kernel) (by decide +kernel)
set_option maxRecDepth 20000 in
theorem gX9_cell_X9_changes : GoodIn wsX9_cell (wsV RX9 40 RX9 yX9_changes wsX9_changes) := goodIn_app (goodIn_of _ (by decide +kernel)) ggX9_cell_X9_changes
set_option maxRecDepth 20000 in
theorem ggX9_cell_X9_cellAt : GoodIn wsX9_cell wsX9_cellAt := goodIn_r _ [25, 12, 30, 31, 32, 33, 34, 35, 36, 37, 38, 39, 40, 41, 42] (by decide +kernel) (by decide +kernel)
set_option maxRecDepth 20000 in
theorem gX9_cell_X9_cellAt : GoodIn wsX9_cell (wsV RX9 61 RX9 yX9_cellAt wsX9_cellAt) := goodIn_app (goodIn_of _ (by decide +kernel)) ggX9_cell_X9_cellAt
set_option maxRecDepth 20000 in
theorem ggX9_cell_X9_setsCell : GoodIn wsX9_cell wsX9_setsCell := goodIn_r _ [29, 12, 30, 31, 32, 33, 34, 35, 36, 37, 38, 39, 40, 41, 42] (by decide +kernel) (by decide +kernel)
set_option maxRecDepth 20000 in
theorem gX9_cell_X9_setsCell : GoodIn wsX9_cell (wsV RX9 43 RX9 yX9_setsCell wsX9_setsCell) := goodIn_app (goodIn_of _ (by decide +kernel)) ggX9_cell_X9_setsCell
theorem dX9_cell_0 : decode cX9_cell 0 = .ok (.iload_n 1, 1) := by decide +kernel
theorem dX9_cell_1 : decode cX9_cell 1 = .ok (.invokestatic 36, 3) := by decide +kernel
theorem dX9_cell_4 : decode cX9_cell 4 = .ok (.ifCond .eq 23, 3) := by decide +kernel
theorem dX9_cell_7 : decode cX9_cell 7 = .ok (.aload_n 0, 1) := by decide +kernel
theorem dX9_cell_8 : decode cX9_cell 8 = .ok (.iload_n 1, 1) := by decide +kernel
theorem dX9_cell_9 : decode cX9_cell 9 = .ok (.iload_n 2, 1) := by decide +kernel
theorem dX9_cell_10 : decode cX9_cell 10 = .ok (.invokevirtual 55, 3) := by decide +kernel
theorem dX9_cell_13 : decode cX9_cell 13 = .ok (.ifCond .eq 14, 3) := by decide +kernel
theorem dX9_cell_16 : decode cX9_cell 16 = .ok (.iload_n 3, 1) := by decide +kernel
theorem dX9_cell_17 : decode cX9_cell 17 = .ok (.iload 4, 2) := by decide +kernel
theorem dX9_cell_19 : decode cX9_cell 19 = .ok (.iload 5, 2) := by decide +kernel
theorem dX9_cell_21 : decode cX9_cell 21 = .ok (.invokestatic 58, 3) := by decide +kernel
theorem dX9_cell_24 : decode cX9_cell 24 = .ok (.ifCond .ne 6, 3) := by decide +kernel
theorem dX9_cell_27 : decode cX9_cell 27 = .ok (.bipush (-11), 2) := by decide +kernel
theorem dX9_cell_29 : decode cX9_cell 29 = .ok (.ireturn, 1) := by decide +kernel
theorem dX9_cell_30 : decode cX9_cell 30 = .ok (.aload_n 0, 1) := by decide +kernel
theorem dX9_cell_31 : decode cX9_cell 31 = .ok (.invokevirtual 40, 3) := by decide +kernel
theorem dX9_cell_34 : decode cX9_cell 34 = .ok (.aload_n 0, 1) := by decide +kernel
theorem dX9_cell_35 : decode cX9_cell 35 = .ok (.iload_n 1, 1) := by decide +kernel
theorem dX9_cell_36 : decode cX9_cell 36 = .ok (.iload_n 2, 1) := by decide +kernel
theorem dX9_cell_37 : decode cX9_cell 37 = .ok (.iconst 0, 1) := by decide +kernel
theorem dX9_cell_38 : decode cX9_cell 38 = .ok (.invokevirtual 61, 3) := by decide +kernel
theorem dX9_cell_41 : decode cX9_cell 41 = .ok (.istore 6, 2) := by decide +kernel
theorem dX9_cell_43 : decode cX9_cell 43 = .ok (.aload_n 0, 1) := by decide +kernel
theorem dX9_cell_44 : decode cX9_cell 44 = .ok (.iload_n 1, 1) := by decide +kernel
theorem dX9_cell_45 : decode cX9_cell 45 = .ok (.iload_n 2, 1) := by decide +kernel
theorem dX9_cell_46 : decode cX9_cell 46 = .ok (.iload_n 3, 1) := by decide +kernel
theorem dX9_cell_47 : decode cX9_cell 47 = .ok (.iload 4, 2) := by decide +kernel
theorem dX9_cell_49 : decode cX9_cell 49 = .ok (.iload 5, 2) := by decide +kernel
theorem dX9_cell_51 : decode cX9_cell 51 = .ok (.invokevirtual 43, 3) := by decide +kernel
theorem dX9_cell_54 : decode cX9_cell 54 = .ok (.iload 6, 2) := by decide +kernel
theorem dX9_cell_56 : decode cX9_cell 56 = .ok (.ireturn, 1) := by decide +kernel
set_option maxRecDepth 20000 in
theorem ggX9_others_X9_cellAt : GoodIn wsX9_others wsX9_cellAt := goodIn_r _ [6, 1, 7, 8, 9, 10, 11, 12, 13, 14, 15, 16, 17, 18, 19] (by decide +kernel) (by decide +kernel)
set_option maxRecDepth 20000 in
theorem gX9_others_X9_cellAt : GoodIn wsX9_others (wsV RX9 61 RX9 yX9_cellAt wsX9_cellAt) := goodIn_app (goodIn_of _ (by decide +kernel)) ggX9_others_X9_cellAt
theorem dX9_others_0 : decode cX9_others 0 = .ok (.iconst 0, 1) := by decide +kernel
theorem dX9_others_1 : decode cX9_others 1 = .ok (.istore_n 2, 1) := by decide +kernel
theorem dX9_others_2 : decode cX9_others 2 = .ok (.iconst 0, 1) := by decide +kernel
theorem dX9_others_3 : decode cX9_others 3 = .ok (.istore_n 3, 1) := by decide +kernel
theorem dX9_others_4 : decode cX9_others 4 = .ok (.iload_n 3, 1) := by decide +kernel
theorem dX9_others_5 : decode cX9_others 5 = .ok (.aload_n 0, 1) := by decide +kernel
theorem dX9_others_6 : decode cX9_others 6 = .ok (.getfield 7, 3) := by decide +kernel
theorem dX9_others_9 : decode cX9_others 9 = .ok (.iconst 0, 1) := by decide +kernel
theorem dX9_others_10 : decode cX9_others 10 = .ok (.iload_n 1, 1) := by decide +kernel
theorem dX9_others_11 : decode cX9_others 11 = .ok (.iadd, 1) := by decide +kernel
theorem dX9_others_12 : decode cX9_others 12 = .ok (.iaload, 1) := by decide +kernel
theorem dX9_others_13 : decode cX9_others 13 = .ok (.if_icmp .ge 27, 3) := by decide +kernel
theorem dX9_others_16 : decode cX9_others 16 = .ok (.iload_n 2, 1) := by decide +kernel
theorem dX9_others_17 : decode cX9_others 17 = .ok (.aload_n 0, 1) := by decide +kernel
theorem dX9_others_18 : decode cX9_others 18 = .ok (.iload_n 1, 1) := by decide +kernel
theorem dX9_others_19 : decode cX9_others 19 = .ok (.iload_n 3, 1) := by decide +kernel
theorem dX9_others_20 : decode cX9_others 20 = .ok (.iconst 0, 1) := by decide +kernel
theorem dX9_others_21 : decode cX9_others 21 = .ok (.invokevirtual 61, 3) := by decide +kernel
theorem dX9_others_24 : decode cX9_others 24 = .ok (.ifCond .eq 7, 3) := by decide +kernel
theorem dX9_others_27 : decode cX9_others 27 = .ok (.iconst 1, 1) := by decide +kernel
theorem dX9_others_28 : decode cX9_others 28 = .ok (.goto 4, 3) := by decide +kernel
theorem dX9_others_31 : decode cX9_others 31 = .ok (.iconst 0, 1) := by decide +kernel
theorem dX9_others_32 : decode cX9_others 32 = .ok (.iadd, 1) := by decide +kernel
theorem dX9_others_33 : decode cX9_others 33 = .ok (.istore_n 2, 1) := by decide +kernel
theorem dX9_others_34 : decode cX9_others 34 = .ok (.iinc 3 1, 3) := by decide +kernel
theorem dX9_others_37 : decode cX9_others 37 = .ok (.goto (-33), 3) := by decide +kernel
theorem dX9_others_40 : decode cX9_others 40 = .ok (.iload_n 2, 1) := by decide +kernel
theorem dX9_others_41 : decode cX9_others 41 = .ok (.ireturn, 1) := by decide +kernel
set_option maxRecDepth 20000 in
theorem ggX9_clear_X9_isDrawer : GoodIn wsX9_clear wsX9_isDrawer := goodIn_r _ [4, 5, 6, 3, 7] (by decide +kernel) (by decide +kernel)
set_option maxRecDepth 20000 in
theorem gX9_clear_X9_isDrawer : GoodIn wsX9_clear (va_wsS RX9 36 yX9_isDrawer wsX9_isDrawer) := goodIn_app (goodIn_of _ (by decide +kernel)) ggX9_clear_X9_isDrawer
set_option maxRecDepth 20000 in
theorem ggX9_clear_X9_changes : GoodIn wsX9_clear wsX9_changes := goodIn_r _ [11, 12, 13, 14, 27, 28, 29, 30, 31, 32, 33, 34, 35, 36, 37, 38, 39] (by decide +kernel) (by decide +kernel)
set_option maxRecDepth 20000 in
theorem gX9_clear_X9_changes : GoodIn wsX9_clear (wsV RX9 40 RX9 yX9_changes wsX9_changes) := goodIn_app (goodIn_of _ (by decide +kernel)) ggX9_clear_X9_changes
set_option maxRecDepth 20000 in
theorem ggX9_clear_X9_others : GoodIn wsX9_clear wsX9_others := goodIn_r _ [18, 14, 19, 20, 21, 3, 22, 27, 28, 29, 30, 31, 32, 33, 34, 35, 36, 37, 38, 39] (by decide +kernel) (by decide +kernel)
set_option maxRecDepth 20000 in
theorem gX9_clear_X9_others : GoodIn wsX9_clear (wsV RX9 64 RX9 yX9_others wsX9_others) := goodIn_app (goodIn_of _ (by decide +kernel)) ggX9_clear_X9_others
set_option maxRecDepth 20000 in
theorem ggX9_clear_X9_setsCell : GoodIn wsX9_clear wsX9_setsCell := goodIn_r _ [26, 14, 27, 28, 29, 30, 31, 32, 33, 34, 35, 36, 37, 38, 39] (by decide +kernel) (by decide +kernel)
set_option maxRecDepth 20000 in
theorem gX9_clear_X9_setsCell : GoodIn wsX9_clear (wsV RX9 43 RX9 yX9_setsCell wsX9_setsCell) := goodIn_app (goodIn_of _ (by decide +kernel)) ggX9_clear_X9_setsCell
theorem dX9_clear_0 : decode cX9_clear 0 = .ok (.iload_n 1, 1) := by decide +kernel
theorem dX9_clear_1 : decode cX9_clear 1 = .ok (.invokestatic 36, 3) := by decide +kernel
theorem dX9_clear_4 : decode cX9_clear 4 = .ok (.ifCond .ne 6, 3) := by decide +kernel
theorem dX9_clear_7 : decode cX9_clear 7 = .ok (.bipush (-11), 2) := by decide +kernel
theorem dX9_clear_9 : decode cX9_clear 9 = .ok (.ireturn, 1) := by decide +kernel
theorem dX9_clear_10 : decode cX9_clear 10 = .ok (.aload_n 0, 1) := by decide +kernel
theorem dX9_clear_11 : decode cX9_clear 11 = .ok (.invokevirtual 40, 3) := by decide +kernel
theorem dX9_clear_14 : decode cX9_clear 14 = .ok (.aload_n 0, 1) := by decide +kernel
theorem dX9_clear_15 : decode cX9_clear 15 = .ok (.iload_n 1, 1) := by decide +kernel
theorem dX9_clear_16 : decode cX9_clear 16 = .ok (.invokevirtual 64, 3) := by decide +kernel
theorem dX9_clear_19 : decode cX9_clear 19 = .ok (.istore_n 2, 1) := by decide +kernel
theorem dX9_clear_20 : decode cX9_clear 20 = .ok (.iconst 0, 1) := by decide +kernel
theorem dX9_clear_21 : decode cX9_clear 21 = .ok (.istore_n 3, 1) := by decide +kernel
theorem dX9_clear_22 : decode cX9_clear 22 = .ok (.iload_n 3, 1) := by decide +kernel
theorem dX9_clear_23 : decode cX9_clear 23 = .ok (.iconst 4, 1) := by decide +kernel
theorem dX9_clear_24 : decode cX9_clear 24 = .ok (.if_icmp .ge 18, 3) := by decide +kernel
theorem dX9_clear_27 : decode cX9_clear 27 = .ok (.aload_n 0, 1) := by decide +kernel
theorem dX9_clear_28 : decode cX9_clear 28 = .ok (.iload_n 1, 1) := by decide +kernel
theorem dX9_clear_29 : decode cX9_clear 29 = .ok (.iload_n 3, 1) := by decide +kernel
theorem dX9_clear_30 : decode cX9_clear 30 = .ok (.iconst 0, 1) := by decide +kernel
theorem dX9_clear_31 : decode cX9_clear 31 = .ok (.iconst 0, 1) := by decide +kernel
theorem dX9_clear_32 : decode cX9_clear 32 = .ok (.iconst 0, 1) := by decide +kernel
theorem dX9_clear_33 : decode cX9_clear 33 = .ok (.invokevirtual 43, 3) := by decide +kernel
theorem dX9_clear_36 : decode cX9_clear 36 = .ok (.iinc 3 1, 3) := by decide +kernel
theorem dX9_clear_39 : decode cX9_clear 39 = .ok (.goto (-17), 3) := by decide +kernel
theorem dX9_clear_42 : decode cX9_clear 42 = .ok (.iload_n 2, 1) := by decide +kernel
theorem dX9_clear_43 : decode cX9_clear 43 = .ok (.ireturn, 1) := by decide +kernel
set_option maxRecDepth 20000 in
theorem ggX9_both_X9_in : GoodIn wsX9_both wsX9_in := goodIn_r _ [5] (by decide +kernel) (by decide +kernel)
set_option maxRecDepth 20000 in
theorem gX9_both_X9_in : GoodIn wsX9_both (va_wsS RX9 32 yX9_in wsX9_in) := goodIn_app (goodIn_of _ (by decide +kernel)) ggX9_both_X9_in
set_option maxRecDepth 20000 in
theorem ggX9_both_X9_changes : GoodIn wsX9_both wsX9_changes := goodIn_r _ [9, 10, 11, 1, 12, 13, 14, 15, 16, 17, 18, 19, 20, 21, 22, 23, 24] (by decide +kernel) (by decide +kernel)
set_option maxRecDepth 20000 in
theorem gX9_both_X9_changes : GoodIn wsX9_both (wsV RX9 40 RX9 yX9_changes wsX9_changes) := goodIn_app (goodIn_of _ (by decide +kernel)) ggX9_both_X9_changes
theorem dX9_both_0 : decode cX9_both 0 = .ok (.iload_n 1, 1) := by decide +kernel
theorem dX9_both_1 : decode cX9_both 1 = .ok (.iconst 0, 1) := by decide +kernel
theorem dX9_both_2 : decode cX9_both 2 = .ok (.iconst 1, 1) := by decide +kernel
theorem dX9_both_3 : decode cX9_both 3 = .ok (.invokestatic 32, 3) := by decide +kernel
theorem dX9_both_6 : decode cX9_both 6 = .ok (.ifCond .ne 6, 3) := by decide +kernel
theorem dX9_both_9 : decode cX9_both 9 = .ok (.bipush (-11), 2) := by decide +kernel
theorem dX9_both_11 : decode cX9_both 11 = .ok (.ireturn, 1) := by decide +kernel
theorem dX9_both_12 : decode cX9_both 12 = .ok (.aload_n 0, 1) := by decide +kernel
theorem dX9_both_13 : decode cX9_both 13 = .ok (.invokevirtual 40, 3) := by decide +kernel
theorem dX9_both_16 : decode cX9_both 16 = .ok (.aload_n 0, 1) := by decide +kernel
theorem dX9_both_17 : decode cX9_both 17 = .ok (.getfield 7, 3) := by decide +kernel
theorem dX9_both_20 : decode cX9_both 20 = .ok (.bipush 124, 2) := by decide +kernel
theorem dX9_both_22 : decode cX9_both 22 = .ok (.iaload, 1) := by decide +kernel
theorem dX9_both_23 : decode cX9_both 23 = .ok (.istore_n 2, 1) := by decide +kernel
theorem dX9_both_24 : decode cX9_both 24 = .ok (.aload_n 0, 1) := by decide +kernel
theorem dX9_both_25 : decode cX9_both 25 = .ok (.getfield 7, 3) := by decide +kernel
theorem dX9_both_28 : decode cX9_both 28 = .ok (.bipush 124, 2) := by decide +kernel
theorem dX9_both_30 : decode cX9_both 30 = .ok (.iload_n 1, 1) := by decide +kernel
theorem dX9_both_31 : decode cX9_both 31 = .ok (.iastore, 1) := by decide +kernel
theorem dX9_both_32 : decode cX9_both 32 = .ok (.iload_n 2, 1) := by decide +kernel
theorem dX9_both_33 : decode cX9_both 33 = .ok (.ireturn, 1) := by decide +kernel
set_option maxRecDepth 20000 in
theorem ggX9_order_X9_in : GoodIn wsX9_order wsX9_in := goodIn_r _ [6] (by decide +kernel) (by decide +kernel)
set_option maxRecDepth 20000 in
theorem gX9_order_X9_in : GoodIn wsX9_order (va_wsS RX9 32 yX9_in wsX9_in) := goodIn_app (goodIn_of _ (by decide +kernel)) ggX9_order_X9_in
set_option maxRecDepth 20000 in
theorem ggX9_order_X9_changes : GoodIn wsX9_order wsX9_changes := goodIn_r _ [10, 11, 12, 1, 61, 62, 63, 64, 65, 66, 67, 68, 69, 70, 71, 72, 73] (by decide +kernel) (by decide +kernel)
set_option maxRecDepth 20000 in
theorem gX9_order_X9_changes : GoodIn wsX9_order (wsV RX9 40 RX9 yX9_changes wsX9_changes) := goodIn_app (goodIn_of _ (by decide +kernel)) ggX9_order_X9_changes
set_option maxRecDepth 20000 in
theorem ggX9_order_X9_finds : GoodIn wsX9_order wsX9_finds := goodIn_r _ [16, 2, 1, 17, 18, 19, 5, 20, 21, 22, 23, 24, 25, 26, 27, 28, 29, 30, 31, 32, 33, 34, 35, 36, 37, 38, 39, 40, 41, 42, 43, 44, 45, 46, 3, 4, 6, 47, 48, 49, 50, 51, 52, 53, 54, 55, 56, 57, 58, 59, 60, 61, 62, 63, 64, 65, 66, 67, 68, 69, 70, 71, 72, 73] (by decide +kernel) (by decide +kernel)
set_option maxRecDepth 20000 in
theorem gX9_order_X9_finds : GoodIn wsX9_order (wsV RX9 68 RX9 yX9_finds wsX9_finds) := goodIn_app (goodIn_of _ (by decide +kernel)) ggX9_order_X9_finds
theorem dX9_order_0 : decode cX9_order 0 = .ok (.iload_n 1, 1) := by decide +kernel
theorem dX9_order_1 : decode cX9_order 1 = .ok (.iconst 0, 1) := by decide +kernel
theorem dX9_order_2 : decode cX9_order 2 = .ok (.iconst 1, 1) := by decide +kernel
theorem dX9_order_3 : decode cX9_order 3 = .ok (.invokestatic 32, 3) := by decide +kernel
theorem dX9_order_6 : decode cX9_order 6 = .ok (.ifCond .eq 22, 3) := by decide +kernel
theorem dX9_order_9 : decode cX9_order 9 = .ok (.iload_n 2, 1) := by decide +kernel
theorem dX9_order_10 : decode cX9_order 10 = .ok (.iconst (-1), 1) := by decide +kernel
theorem dX9_order_11 : decode cX9_order 11 = .ok (.bipush 7, 2) := by decide +kernel
theorem dX9_order_13 : decode cX9_order 13 = .ok (.invokestatic 32, 3) := by decide +kernel
theorem dX9_order_16 : decode cX9_order 16 = .ok (.ifCond .eq 12, 3) := by decide +kernel
theorem dX9_order_19 : decode cX9_order 19 = .ok (.iload_n 3, 1) := by decide +kernel
theorem dX9_order_20 : decode cX9_order 20 = .ok (.iconst 0, 1) := by decide +kernel
theorem dX9_order_21 : decode cX9_order 21 = .ok (.iconst 1, 1) := by decide +kernel
theorem dX9_order_22 : decode cX9_order 22 = .ok (.invokestatic 32, 3) := by decide +kernel
theorem dX9_order_25 : decode cX9_order 25 = .ok (.ifCond .ne 6, 3) := by decide +kernel
theorem dX9_order_28 : decode cX9_order 28 = .ok (.bipush (-11), 2) := by decide +kernel
theorem dX9_order_30 : decode cX9_order 30 = .ok (.ireturn, 1) := by decide +kernel
theorem dX9_order_31 : decode cX9_order 31 = .ok (.aload_n 0, 1) := by decide +kernel
theorem dX9_order_32 : decode cX9_order 32 = .ok (.invokevirtual 40, 3) := by decide +kernel
theorem dX9_order_35 : decode cX9_order 35 = .ok (.aload_n 0, 1) := by decide +kernel
theorem dX9_order_36 : decode cX9_order 36 = .ok (.getfield 7, 3) := by decide +kernel
theorem dX9_order_39 : decode cX9_order 39 = .ok (.bipush 125, 2) := by decide +kernel
theorem dX9_order_41 : decode cX9_order 41 = .ok (.iconst 2, 1) := by decide +kernel
theorem dX9_order_42 : decode cX9_order 42 = .ok (.iload_n 1, 1) := by decide +kernel
theorem dX9_order_43 : decode cX9_order 43 = .ok (.imul, 1) := by decide +kernel
theorem dX9_order_44 : decode cX9_order 44 = .ok (.iadd, 1) := by decide +kernel
theorem dX9_order_45 : decode cX9_order 45 = .ok (.iload_n 2, 1) := by decide +kernel
theorem dX9_order_46 : decode cX9_order 46 = .ok (.iastore, 1) := by decide +kernel
theorem dX9_order_47 : decode cX9_order 47 = .ok (.aload_n 0, 1) := by decide +kernel
theorem dX9_order_48 : decode cX9_order 48 = .ok (.getfield 7, 3) := by decide +kernel
theorem dX9_order_51 : decode cX9_order 51 = .ok (.bipush 125, 2) := by decide +kernel
theorem dX9_order_53 : decode cX9_order 53 = .ok (.iconst 2, 1) := by decide +kernel
theorem dX9_order_54 : decode cX9_order 54 = .ok (.iload_n 1, 1) := by decide +kernel
theorem dX9_order_55 : decode cX9_order 55 = .ok (.imul, 1) := by decide +kernel
theorem dX9_order_56 : decode cX9_order 56 = .ok (.iadd, 1) := by decide +kernel
theorem dX9_order_57 : decode cX9_order 57 = .ok (.iconst 1, 1) := by decide +kernel
theorem dX9_order_58 : decode cX9_order 58 = .ok (.iadd, 1) := by decide +kernel
theorem dX9_order_59 : decode cX9_order 59 = .ok (.iload_n 3, 1) := by decide +kernel
theorem dX9_order_60 : decode cX9_order 60 = .ok (.iastore, 1) := by decide +kernel
theorem dX9_order_61 : decode cX9_order 61 = .ok (.aload_n 0, 1) := by decide +kernel
theorem dX9_order_62 : decode cX9_order 62 = .ok (.invokevirtual 68, 3) := by decide +kernel
theorem dX9_order_65 : decode cX9_order 65 = .ok (.aload_n 0, 1) := by decide +kernel
theorem dX9_order_66 : decode cX9_order 66 = .ok (.getfield 71, 3) := by decide +kernel
theorem dX9_order_69 : decode cX9_order 69 = .ok (.ireturn, 1) := by decide +kernel
set_option maxRecDepth 20000 in
theorem ggX9_show_X9_in : GoodIn wsX9_show wsX9_in := goodIn_r _ [5] (by decide +kernel) (by decide +kernel)
set_option maxRecDepth 20000 in
theorem gX9_show_X9_in : GoodIn wsX9_show (va_wsS RX9 32 yX9_in wsX9_in) := goodIn_app (goodIn_of _ (by decide +kernel)) ggX9_show_X9_in
set_option maxRecDepth 20000 in
theorem ggX9_show_X9_changes : GoodIn wsX9_show wsX9_changes := goodIn_r _ [9, 10, 11, 1, 69, 70, 71, 72, 73, 74, 75, 76, 77, 78, 79, 80, 81] (by decide +kernel) (by decide +kernel)
set_option maxRecDepth 20000 in
theorem gX9_show_X9_changes : GoodIn wsX9_show (wsV RX9 40 RX9 yX9_changes wsX9_changes) := goodIn_app (goodIn_of _ (by decide +kernel)) ggX9_show_X9_changes
set_option maxRecDepth 20000 in
theorem ggX9_show_X9_unlikeNow : GoodIn wsX9_show wsX9_unlikeNow := goodIn_r _ [15, 16, 17, 18, 19, 4, 20, 1, 21, 22, 23, 24, 25, 26, 27, 28, 29, 30, 31, 32, 33, 34, 35, 36, 37, 38, 39, 40, 41, 42, 43, 44, 45, 46, 47, 48, 49, 50, 2, 3, 5, 51, 52, 53, 54, 55, 56, 57, 58, 59, 60, 61, 62, 63, 64, 65, 66, 67, 68, 69, 70, 71, 72, 73, 74, 75, 76, 77, 78, 79, 80, 81] (by decide +kernel) (by decide +kernel)
set_option maxRecDepth 20000 in
theorem gX9_show_X9_unlikeNow : GoodIn wsX9_show (wsV RX9 74 RX9 yX9_unlikeNow wsX9_unlikeNow) := goodIn_app (goodIn_of _ (by decide +kernel)) ggX9_show_X9_unlikeNow
theorem dX9_show_0 : decode cX9_show 0 = .ok (.iload_n 1, 1) := by decide +kernel
theorem dX9_show_1 : decode cX9_show 1 = .ok (.iconst 0, 1) := by decide +kernel
theorem dX9_show_2 : decode cX9_show 2 = .ok (.sipush 255, 3) := by decide +kernel
theorem dX9_show_5 : decode cX9_show 5 = .ok (.invokestatic 32, 3) := by decide +kernel
theorem dX9_show_8 : decode cX9_show 8 = .ok (.ifCond .ne 6, 3) := by decide +kernel
theorem dX9_show_11 : decode cX9_show 11 = .ok (.bipush (-11), 2) := by decide +kernel
theorem dX9_show_13 : decode cX9_show 13 = .ok (.ireturn, 1) := by decide +kernel
theorem dX9_show_14 : decode cX9_show 14 = .ok (.aload_n 0, 1) := by decide +kernel
theorem dX9_show_15 : decode cX9_show 15 = .ok (.invokevirtual 40, 3) := by decide +kernel
theorem dX9_show_18 : decode cX9_show 18 = .ok (.aload_n 0, 1) := by decide +kernel
theorem dX9_show_19 : decode cX9_show 19 = .ok (.getfield 7, 3) := by decide +kernel
theorem dX9_show_22 : decode cX9_show 22 = .ok (.sipush 129, 3) := by decide +kernel
theorem dX9_show_25 : decode cX9_show 25 = .ok (.iload_n 1, 1) := by decide +kernel
theorem dX9_show_26 : decode cX9_show 26 = .ok (.iastore, 1) := by decide +kernel
theorem dX9_show_27 : decode cX9_show 27 = .ok (.aload_n 0, 1) := by decide +kernel
theorem dX9_show_28 : decode cX9_show 28 = .ok (.invokevirtual 74, 3) := by decide +kernel
theorem dX9_show_31 : decode cX9_show 31 = .ok (.ireturn, 1) := by decide +kernel
set_option maxRecDepth 20000 in
theorem ggX9_fitsOne_X9_in : GoodIn wsX9_fitsOne wsX9_in := goodIn_r _ [4] (by decide +kernel) (by decide +kernel)
set_option maxRecDepth 20000 in
theorem gX9_fitsOne_X9_in : GoodIn wsX9_fitsOne (va_wsS RX9 32 yX9_in wsX9_in) := goodIn_app (goodIn_of _ (by decide +kernel)) ggX9_fitsOne_X9_in
theorem dX9_fitsOne_0 : decode cX9_fitsOne 0 = .ok (.iload_n 0, 1) := by decide +kernel
theorem dX9_fitsOne_1 : decode cX9_fitsOne 1 = .ok (.tableswitch 121 0 7 #[47, 49, 121, 60, 71, 87, 103, 114], 47) := by decide +kernel
theorem dX9_fitsOne_48 : decode cX9_fitsOne 48 = .ok (.iconst 1, 1) := by decide +kernel
theorem dX9_fitsOne_49 : decode cX9_fitsOne 49 = .ok (.ireturn, 1) := by decide +kernel
theorem dX9_fitsOne_50 : decode cX9_fitsOne 50 = .ok (.iload_n 3, 1) := by decide +kernel
theorem dX9_fitsOne_51 : decode cX9_fitsOne 51 = .ok (.iconst (-1), 1) := by decide +kernel
theorem dX9_fitsOne_52 : decode cX9_fitsOne 52 = .ok (.if_icmp .ne 7, 3) := by decide +kernel
theorem dX9_fitsOne_55 : decode cX9_fitsOne 55 = .ok (.iconst 1, 1) := by decide +kernel
theorem dX9_fitsOne_56 : decode cX9_fitsOne 56 = .ok (.goto 4, 3) := by decide +kernel
theorem dX9_fitsOne_59 : decode cX9_fitsOne 59 = .ok (.iconst 0, 1) := by decide +kernel
theorem dX9_fitsOne_60 : decode cX9_fitsOne 60 = .ok (.ireturn, 1) := by decide +kernel
theorem dX9_fitsOne_61 : decode cX9_fitsOne 61 = .ok (.iload_n 3, 1) := by decide +kernel
theorem dX9_fitsOne_62 : decode cX9_fitsOne 62 = .ok (.iload_n 1, 1) := by decide +kernel
theorem dX9_fitsOne_63 : decode cX9_fitsOne 63 = .ok (.if_icmp .ne 7, 3) := by decide +kernel
theorem dX9_fitsOne_66 : decode cX9_fitsOne 66 = .ok (.iconst 1, 1) := by decide +kernel
theorem dX9_fitsOne_67 : decode cX9_fitsOne 67 = .ok (.goto 4, 3) := by decide +kernel
theorem dX9_fitsOne_70 : decode cX9_fitsOne 70 = .ok (.iconst 0, 1) := by decide +kernel
theorem dX9_fitsOne_71 : decode cX9_fitsOne 71 = .ok (.ireturn, 1) := by decide +kernel
theorem dX9_fitsOne_72 : decode cX9_fitsOne 72 = .ok (.iload_n 3, 1) := by decide +kernel
theorem dX9_fitsOne_73 : decode cX9_fitsOne 73 = .ok (.iconst (-1), 1) := by decide +kernel
theorem dX9_fitsOne_74 : decode cX9_fitsOne 74 = .ok (.if_icmp .eq 12, 3) := by decide +kernel
theorem dX9_fitsOne_77 : decode cX9_fitsOne 77 = .ok (.iload_n 3, 1) := by decide +kernel
theorem dX9_fitsOne_78 : decode cX9_fitsOne 78 = .ok (.iload_n 1, 1) := by decide +kernel
theorem dX9_fitsOne_79 : decode cX9_fitsOne 79 = .ok (.if_icmp .eq 7, 3) := by decide +kernel
theorem dX9_fitsOne_82 : decode cX9_fitsOne 82 = .ok (.iconst 1, 1) := by decide +kernel
theorem dX9_fitsOne_83 : decode cX9_fitsOne 83 = .ok (.goto 4, 3) := by decide +kernel
theorem dX9_fitsOne_86 : decode cX9_fitsOne 86 = .ok (.iconst 0, 1) := by decide +kernel
theorem dX9_fitsOne_87 : decode cX9_fitsOne 87 = .ok (.ireturn, 1) := by decide +kernel
theorem dX9_fitsOne_88 : decode cX9_fitsOne 88 = .ok (.iload_n 3, 1) := by decide +kernel
theorem dX9_fitsOne_89 : decode cX9_fitsOne 89 = .ok (.iconst (-1), 1) := by decide +kernel
theorem dX9_fitsOne_90 : decode cX9_fitsOne 90 = .ok (.if_icmp .eq 12, 3) := by decide +kernel
theorem dX9_fitsOne_93 : decode cX9_fitsOne 93 = .ok (.iload_n 3, 1) := by decide +kernel
theorem dX9_fitsOne_94 : decode cX9_fitsOne 94 = .ok (.iload_n 1, 1) := by decide +kernel
theorem dX9_fitsOne_95 : decode cX9_fitsOne 95 = .ok (.if_icmp .ge 7, 3) := by decide +kernel
theorem dX9_fitsOne_98 : decode cX9_fitsOne 98 = .ok (.iconst 1, 1) := by decide +kernel
theorem dX9_fitsOne_99 : decode cX9_fitsOne 99 = .ok (.goto 4, 3) := by decide +kernel
theorem dX9_fitsOne_102 : decode cX9_fitsOne 102 = .ok (.iconst 0, 1) := by decide +kernel
theorem dX9_fitsOne_103 : decode cX9_fitsOne 103 = .ok (.ireturn, 1) := by decide +kernel
theorem dX9_fitsOne_104 : decode cX9_fitsOne 104 = .ok (.iload_n 3, 1) := by decide +kernel
theorem dX9_fitsOne_105 : decode cX9_fitsOne 105 = .ok (.iload_n 1, 1) := by decide +kernel
theorem dX9_fitsOne_106 : decode cX9_fitsOne 106 = .ok (.if_icmp .le 7, 3) := by decide +kernel
theorem dX9_fitsOne_109 : decode cX9_fitsOne 109 = .ok (.iconst 1, 1) := by decide +kernel
theorem dX9_fitsOne_110 : decode cX9_fitsOne 110 = .ok (.goto 4, 3) := by decide +kernel
theorem dX9_fitsOne_113 : decode cX9_fitsOne 113 = .ok (.iconst 0, 1) := by decide +kernel
theorem dX9_fitsOne_114 : decode cX9_fitsOne 114 = .ok (.ireturn, 1) := by decide +kernel
theorem dX9_fitsOne_115 : decode cX9_fitsOne 115 = .ok (.iload_n 3, 1) := by decide +kernel
theorem dX9_fitsOne_116 : decode cX9_fitsOne 116 = .ok (.iload_n 1, 1) := by decide +kernel
theorem dX9_fitsOne_117 : decode cX9_fitsOne 117 = .ok (.iload_n 2, 1) := by decide +kernel
theorem dX9_fitsOne_118 : decode cX9_fitsOne 118 = .ok (.invokestatic 32, 3) := by decide +kernel
theorem dX9_fitsOne_121 : decode cX9_fitsOne 121 = .ok (.ireturn, 1) := by decide +kernel
theorem dX9_fitsOne_122 : decode cX9_fitsOne 122 = .ok (.iload_n 3, 1) := by decide +kernel
theorem dX9_fitsOne_123 : decode cX9_fitsOne 123 = .ok (.iconst (-1), 1) := by decide +kernel
theorem dX9_fitsOne_124 : decode cX9_fitsOne 124 = .ok (.if_icmp .eq 7, 3) := by decide +kernel
theorem dX9_fitsOne_127 : decode cX9_fitsOne 127 = .ok (.iconst 1, 1) := by decide +kernel
theorem dX9_fitsOne_128 : decode cX9_fitsOne 128 = .ok (.goto 4, 3) := by decide +kernel
theorem dX9_fitsOne_131 : decode cX9_fitsOne 131 = .ok (.iconst 0, 1) := by decide +kernel
theorem dX9_fitsOne_132 : decode cX9_fitsOne 132 = .ok (.ireturn, 1) := by decide +kernel
set_option maxRecDepth 20000 in
theorem ggX9_cellOf_X9_isDrawer : GoodIn wsX9_cellOf wsX9_isDrawer := goodIn_r _ [5, 6, 7, 4, 8] (by decide +kernel) (by decide +kernel)
set_option maxRecDepth 20000 in
theorem gX9_cellOf_X9_isDrawer : GoodIn wsX9_cellOf (va_wsS RX9 36 yX9_isDrawer wsX9_isDrawer) := goodIn_app (goodIn_of _ (by decide +kernel)) ggX9_cellOf_X9_isDrawer
set_option maxRecDepth 20000 in
theorem ggX9_cellOf_X9_isColumn : GoodIn wsX9_cellOf wsX9_isColumn := goodIn_r _ [12, 1, 23, 24, 25, 26, 27, 28, 29, 30, 31, 32, 33, 34, 35] (by decide +kernel) (by decide +kernel)
set_option maxRecDepth 20000 in
theorem gX9_cellOf_X9_isColumn : GoodIn wsX9_cellOf (wsV RX9 55 RX9 yX9_isColumn wsX9_isColumn) := goodIn_app (goodIn_of _ (by decide +kernel)) ggX9_cellOf_X9_isColumn
set_option maxRecDepth 20000 in
theorem ggX9_cellOf_X9_in : GoodIn wsX9_cellOf wsX9_in := goodIn_r _ [8] (by decide +kernel) (by decide +kernel)
set_option maxRecDepth 20000 in
theorem gX9_cellOf_X9_in : GoodIn wsX9_cellOf (va_wsS RX9 32 yX9_in wsX9_in) := goodIn_app (goodIn_of _ (by decide +kernel)) ggX9_cellOf_X9_in
set_option maxRecDepth 20000 in
theorem ggX9_cellOf_X9_cellAt : GoodIn wsX9_cellOf wsX9_cellAt := goodIn_r _ [16, 1, 23, 24, 25, 26, 27, 28, 29, 30, 31, 32, 33, 34, 35] (by decide +kernel) (by decide +kernel)
set_option maxRecDepth 20000 in
theorem gX9_cellOf_X9_cellAt : GoodIn wsX9_cellOf (wsV RX9 61 RX9 yX9_cellAt wsX9_cellAt) := goodIn_app (goodIn_of _ (by decide +kernel)) ggX9_cellOf_X9_cellAt
set_option maxRecDepth 20000 in
theorem ggX9_cellOf_X9_valueAt : GoodIn wsX9_cellOf wsX9_valueAt := goodIn_r _ [19] (by decide +kernel) (by decide +kernel)
set_option maxRecDepth 20000 in
theorem gX9_cellOf_X9_valueAt : GoodIn wsX9_cellOf (va_wsS RX9 47 yX9_valueAt wsX9_valueAt) := goodIn_app (goodIn_of _ (by decide +kernel)) ggX9_cellOf_X9_valueAt
set_option maxRecDepth 20000 in
theorem ggX9_cellOf_X9_fitsOne : GoodIn wsX9_cellOf wsX9_fitsOne := goodIn_r _ [22, 6, 7, 4, 8] (by decide +kernel) (by decide +kernel)
set_option maxRecDepth 20000 in
theorem gX9_cellOf_X9_fitsOne : GoodIn wsX9_cellOf (va_wsS RX9 78 yX9_fitsOne wsX9_fitsOne) := goodIn_app (goodIn_of _ (by decide +kernel)) ggX9_cellOf_X9_fitsOne
theorem dX9_cellOf_0 : decode cX9_cellOf 0 = .ok (.iload_n 1, 1) := by decide +kernel
theorem dX9_cellOf_1 : decode cX9_cellOf 1 = .ok (.invokestatic 36, 3) := by decide +kernel
theorem dX9_cellOf_4 : decode cX9_cellOf 4 = .ok (.ifCond .eq 21, 3) := by decide +kernel
theorem dX9_cellOf_7 : decode cX9_cellOf 7 = .ok (.aload_n 0, 1) := by decide +kernel
theorem dX9_cellOf_8 : decode cX9_cellOf 8 = .ok (.iload_n 1, 1) := by decide +kernel
theorem dX9_cellOf_9 : decode cX9_cellOf 9 = .ok (.iload_n 2, 1) := by decide +kernel
theorem dX9_cellOf_10 : decode cX9_cellOf 10 = .ok (.invokevirtual 55, 3) := by decide +kernel
theorem dX9_cellOf_13 : decode cX9_cellOf 13 = .ok (.ifCond .eq 12, 3) := by decide +kernel
theorem dX9_cellOf_16 : decode cX9_cellOf 16 = .ok (.iload_n 3, 1) := by decide +kernel
theorem dX9_cellOf_17 : decode cX9_cellOf 17 = .ok (.iconst 0, 1) := by decide +kernel
theorem dX9_cellOf_18 : decode cX9_cellOf 18 = .ok (.iconst 3, 1) := by decide +kernel
theorem dX9_cellOf_19 : decode cX9_cellOf 19 = .ok (.invokestatic 32, 3) := by decide +kernel
theorem dX9_cellOf_22 : decode cX9_cellOf 22 = .ok (.ifCond .ne 6, 3) := by decide +kernel
theorem dX9_cellOf_25 : decode cX9_cellOf 25 = .ok (.bipush (-11), 2) := by decide +kernel
theorem dX9_cellOf_27 : decode cX9_cellOf 27 = .ok (.ireturn, 1) := by decide +kernel
theorem dX9_cellOf_28 : decode cX9_cellOf 28 = .ok (.iload_n 3, 1) := by decide +kernel
theorem dX9_cellOf_29 : decode cX9_cellOf 29 = .ok (.iconst 3, 1) := by decide +kernel
theorem dX9_cellOf_30 : decode cX9_cellOf 30 = .ok (.if_icmp .ge 11, 3) := by decide +kernel
theorem dX9_cellOf_33 : decode cX9_cellOf 33 = .ok (.aload_n 0, 1) := by decide +kernel
theorem dX9_cellOf_34 : decode cX9_cellOf 34 = .ok (.iload_n 1, 1) := by decide +kernel
theorem dX9_cellOf_35 : decode cX9_cellOf 35 = .ok (.iload_n 2, 1) := by decide +kernel
theorem dX9_cellOf_36 : decode cX9_cellOf 36 = .ok (.iload_n 3, 1) := by decide +kernel
theorem dX9_cellOf_37 : decode cX9_cellOf 37 = .ok (.invokevirtual 61, 3) := by decide +kernel
theorem dX9_cellOf_40 : decode cX9_cellOf 40 = .ok (.ireturn, 1) := by decide +kernel
theorem dX9_cellOf_41 : decode cX9_cellOf 41 = .ok (.aload_n 0, 1) := by decide +kernel
theorem dX9_cellOf_42 : decode cX9_cellOf 42 = .ok (.iload_n 1, 1) := by decide +kernel
theorem dX9_cellOf_43 : decode cX9_cellOf 43 = .ok (.iload_n 2, 1) := by decide +kernel
theorem dX9_cellOf_44 : decode cX9_cellOf 44 = .ok (.iconst 0, 1) := by decide +kernel
theorem dX9_cellOf_45 : decode cX9_cellOf 45 = .ok (.invokevirtual 61, 3) := by decide +kernel
theorem dX9_cellOf_48 : decode cX9_cellOf 48 = .ok (.istore 4, 2) := by decide +kernel
theorem dX9_cellOf_50 : decode cX9_cellOf 50 = .ok (.iconst 0, 1) := by decide +kernel
theorem dX9_cellOf_51 : decode cX9_cellOf 51 = .ok (.istore 5, 2) := by decide +kernel
theorem dX9_cellOf_53 : decode cX9_cellOf 53 = .ok (.iconst 0, 1) := by decide +kernel
theorem dX9_cellOf_54 : decode cX9_cellOf 54 = .ok (.istore 6, 2) := by decide +kernel
theorem dX9_cellOf_56 : decode cX9_cellOf 56 = .ok (.iload 6, 2) := by decide +kernel
theorem dX9_cellOf_58 : decode cX9_cellOf 58 = .ok (.aload_n 0, 1) := by decide +kernel
theorem dX9_cellOf_59 : decode cX9_cellOf 59 = .ok (.getfield 7, 3) := by decide +kernel
theorem dX9_cellOf_62 : decode cX9_cellOf 62 = .ok (.iconst 2, 1) := by decide +kernel
theorem dX9_cellOf_63 : decode cX9_cellOf 63 = .ok (.iload_n 1, 1) := by decide +kernel
theorem dX9_cellOf_64 : decode cX9_cellOf 64 = .ok (.iadd, 1) := by decide +kernel
theorem dX9_cellOf_65 : decode cX9_cellOf 65 = .ok (.iaload, 1) := by decide +kernel
theorem dX9_cellOf_66 : decode cX9_cellOf 66 = .ok (.if_icmp .ge 64, 3) := by decide +kernel
theorem dX9_cellOf_69 : decode cX9_cellOf 69 = .ok (.iload 4, 2) := by decide +kernel
theorem dX9_cellOf_71 : decode cX9_cellOf 71 = .ok (.aload_n 0, 1) := by decide +kernel
theorem dX9_cellOf_72 : decode cX9_cellOf 72 = .ok (.iload_n 1, 1) := by decide +kernel
theorem dX9_cellOf_73 : decode cX9_cellOf 73 = .ok (.iload_n 2, 1) := by decide +kernel
theorem dX9_cellOf_74 : decode cX9_cellOf 74 = .ok (.iconst 1, 1) := by decide +kernel
theorem dX9_cellOf_75 : decode cX9_cellOf 75 = .ok (.invokevirtual 61, 3) := by decide +kernel
theorem dX9_cellOf_78 : decode cX9_cellOf 78 = .ok (.aload_n 0, 1) := by decide +kernel
theorem dX9_cellOf_79 : decode cX9_cellOf 79 = .ok (.iload_n 1, 1) := by decide +kernel
theorem dX9_cellOf_80 : decode cX9_cellOf 80 = .ok (.iload_n 2, 1) := by decide +kernel
theorem dX9_cellOf_81 : decode cX9_cellOf 81 = .ok (.iconst 2, 1) := by decide +kernel
theorem dX9_cellOf_82 : decode cX9_cellOf 82 = .ok (.invokevirtual 61, 3) := by decide +kernel
theorem dX9_cellOf_85 : decode cX9_cellOf 85 = .ok (.aload_n 0, 1) := by decide +kernel
theorem dX9_cellOf_86 : decode cX9_cellOf 86 = .ok (.getfield 7, 3) := by decide +kernel
theorem dX9_cellOf_89 : decode cX9_cellOf 89 = .ok (.iload_n 1, 1) := by decide +kernel
theorem dX9_cellOf_90 : decode cX9_cellOf 90 = .ok (.iload 6, 2) := by decide +kernel
theorem dX9_cellOf_92 : decode cX9_cellOf 92 = .ok (.iload_n 2, 1) := by decide +kernel
theorem dX9_cellOf_93 : decode cX9_cellOf 93 = .ok (.invokestatic 47, 3) := by decide +kernel
theorem dX9_cellOf_96 : decode cX9_cellOf 96 = .ok (.iaload, 1) := by decide +kernel
theorem dX9_cellOf_97 : decode cX9_cellOf 97 = .ok (.invokestatic 78, 3) := by decide +kernel
theorem dX9_cellOf_100 : decode cX9_cellOf 100 = .ok (.istore 7, 2) := by decide +kernel
theorem dX9_cellOf_102 : decode cX9_cellOf 102 = .ok (.iload 5, 2) := by decide +kernel
theorem dX9_cellOf_104 : decode cX9_cellOf 104 = .ok (.iload 4, 2) := by decide +kernel
theorem dX9_cellOf_106 : decode cX9_cellOf 106 = .ok (.bipush 9, 2) := by decide +kernel
theorem dX9_cellOf_108 : decode cX9_cellOf 108 = .ok (.if_icmp .ge 12, 3) := by decide +kernel
theorem dX9_cellOf_111 : decode cX9_cellOf 111 = .ok (.iload 7, 2) := by decide +kernel
theorem dX9_cellOf_113 : decode cX9_cellOf 113 = .ok (.ifCond .eq 7, 3) := by decide +kernel
theorem dX9_cellOf_116 : decode cX9_cellOf 116 = .ok (.iconst 1, 1) := by decide +kernel
theorem dX9_cellOf_117 : decode cX9_cellOf 117 = .ok (.goto 4, 3) := by decide +kernel
theorem dX9_cellOf_120 : decode cX9_cellOf 120 = .ok (.iconst 0, 1) := by decide +kernel
theorem dX9_cellOf_121 : decode cX9_cellOf 121 = .ok (.iadd, 1) := by decide +kernel
theorem dX9_cellOf_122 : decode cX9_cellOf 122 = .ok (.istore 5, 2) := by decide +kernel
theorem dX9_cellOf_124 : decode cX9_cellOf 124 = .ok (.iinc 6 1, 3) := by decide +kernel
theorem dX9_cellOf_127 : decode cX9_cellOf 127 = .ok (.goto (-71), 3) := by decide +kernel
theorem dX9_cellOf_130 : decode cX9_cellOf 130 = .ok (.iload 5, 2) := by decide +kernel
theorem dX9_cellOf_132 : decode cX9_cellOf 132 = .ok (.ireturn, 1) := by decide +kernel
set_option maxRecDepth 20000 in
theorem ggX9_isAsked_X9_isColumn : GoodIn wsX9_isAsked wsX9_isColumn := goodIn_r _ [6, 1, 7, 8, 9, 10, 11, 12, 13, 14, 15, 16, 17, 18, 19] (by decide +kernel) (by decide +kernel)
set_option maxRecDepth 20000 in
theorem gX9_isAsked_X9_isColumn : GoodIn wsX9_isAsked (wsV RX9 55 RX9 yX9_isColumn wsX9_isColumn) := goodIn_app (goodIn_of _ (by decide +kernel)) ggX9_isAsked_X9_isColumn
theorem dX9_isAsked_0 : decode cX9_isAsked 0 = .ok (.aload_n 0, 1) := by decide +kernel
theorem dX9_isAsked_1 : decode cX9_isAsked 1 = .ok (.iload_n 1, 1) := by decide +kernel
theorem dX9_isAsked_2 : decode cX9_isAsked 2 = .ok (.iconst 4, 1) := by decide +kernel
theorem dX9_isAsked_3 : decode cX9_isAsked 3 = .ok (.idiv, 1) := by decide +kernel
theorem dX9_isAsked_4 : decode cX9_isAsked 4 = .ok (.iload_n 1, 1) := by decide +kernel
theorem dX9_isAsked_5 : decode cX9_isAsked 5 = .ok (.iconst 4, 1) := by decide +kernel
theorem dX9_isAsked_6 : decode cX9_isAsked 6 = .ok (.irem, 1) := by decide +kernel
theorem dX9_isAsked_7 : decode cX9_isAsked 7 = .ok (.invokevirtual 55, 3) := by decide +kernel
theorem dX9_isAsked_10 : decode cX9_isAsked 10 = .ok (.ifCond .eq 23, 3) := by decide +kernel
theorem dX9_isAsked_13 : decode cX9_isAsked 13 = .ok (.iload_n 1, 1) := by decide +kernel
theorem dX9_isAsked_14 : decode cX9_isAsked 14 = .ok (.iconst 4, 1) := by decide +kernel
theorem dX9_isAsked_15 : decode cX9_isAsked 15 = .ok (.if_icmp .lt 14, 3) := by decide +kernel
theorem dX9_isAsked_18 : decode cX9_isAsked 18 = .ok (.aload_n 0, 1) := by decide +kernel
theorem dX9_isAsked_19 : decode cX9_isAsked 19 = .ok (.getfield 7, 3) := by decide +kernel
theorem dX9_isAsked_22 : decode cX9_isAsked 22 = .ok (.bipush 124, 2) := by decide +kernel
theorem dX9_isAsked_24 : decode cX9_isAsked 24 = .ok (.iaload, 1) := by decide +kernel
theorem dX9_isAsked_25 : decode cX9_isAsked 25 = .ok (.iconst 1, 1) := by decide +kernel
theorem dX9_isAsked_26 : decode cX9_isAsked 26 = .ok (.if_icmp .ne 7, 3) := by decide +kernel
theorem dX9_isAsked_29 : decode cX9_isAsked 29 = .ok (.iconst 1, 1) := by decide +kernel
theorem dX9_isAsked_30 : decode cX9_isAsked 30 = .ok (.goto 4, 3) := by decide +kernel
theorem dX9_isAsked_33 : decode cX9_isAsked 33 = .ok (.iconst 0, 1) := by decide +kernel
theorem dX9_isAsked_34 : decode cX9_isAsked 34 = .ok (.ireturn, 1) := by decide +kernel
set_option maxRecDepth 20000 in
theorem ggX9_at_X9_valueAt : GoodIn wsX9_at wsX9_valueAt := goodIn_r _ [5] (by decide +kernel) (by decide +kernel)
set_option maxRecDepth 20000 in
theorem gX9_at_X9_valueAt : GoodIn wsX9_at (va_wsS RX9 47 yX9_valueAt wsX9_valueAt) := goodIn_app (goodIn_of _ (by decide +kernel)) ggX9_at_X9_valueAt
theorem dX9_at_0 : decode cX9_at 0 = .ok (.aload_n 0, 1) := by decide +kernel
theorem dX9_at_1 : decode cX9_at 1 = .ok (.getfield 7, 3) := by decide +kernel
theorem dX9_at_4 : decode cX9_at 4 = .ok (.iload_n 3, 1) := by decide +kernel
theorem dX9_at_5 : decode cX9_at 5 = .ok (.iconst 4, 1) := by decide +kernel
theorem dX9_at_6 : decode cX9_at 6 = .ok (.idiv, 1) := by decide +kernel
theorem dX9_at_7 : decode cX9_at 7 = .ok (.iload_n 3, 1) := by decide +kernel
theorem dX9_at_8 : decode cX9_at 8 = .ok (.iconst 4, 1) := by decide +kernel
theorem dX9_at_9 : decode cX9_at 9 = .ok (.if_icmp .ge 7, 3) := by decide +kernel
theorem dX9_at_12 : decode cX9_at 12 = .ok (.iload_n 1, 1) := by decide +kernel
theorem dX9_at_13 : decode cX9_at 13 = .ok (.goto 4, 3) := by decide +kernel
theorem dX9_at_16 : decode cX9_at 16 = .ok (.iload_n 2, 1) := by decide +kernel
theorem dX9_at_17 : decode cX9_at 17 = .ok (.iload_n 3, 1) := by decide +kernel
theorem dX9_at_18 : decode cX9_at 18 = .ok (.iconst 4, 1) := by decide +kernel
theorem dX9_at_19 : decode cX9_at 19 = .ok (.irem, 1) := by decide +kernel
theorem dX9_at_20 : decode cX9_at 20 = .ok (.invokestatic 47, 3) := by decide +kernel
theorem dX9_at_23 : decode cX9_at 23 = .ok (.iaload, 1) := by decide +kernel
theorem dX9_at_24 : decode cX9_at 24 = .ok (.ireturn, 1) := by decide +kernel
set_option maxRecDepth 20000 in
theorem ggX9_teller_X9_isAsked : GoodIn wsX9_teller wsX9_isAsked := goodIn_r _ [5, 6, 7, 8, 9, 4, 10, 15, 16, 17, 18, 19, 20, 21, 22, 23, 24, 25, 26, 27] (by decide +kernel) (by decide +kernel)
set_option maxRecDepth 20000 in
theorem gX9_teller_X9_isAsked : GoodIn wsX9_teller (wsV RX9 82 RX9 yX9_isAsked wsX9_isAsked) := goodIn_app (goodIn_of _ (by decide +kernel)) ggX9_teller_X9_isAsked
set_option maxRecDepth 20000 in
theorem ggX9_teller_X9_cellAt : GoodIn wsX9_teller wsX9_cellAt := goodIn_r _ [14, 6, 15, 16, 17, 18, 19, 20, 21, 22, 23, 24, 25, 26, 27] (by decide +kernel) (by decide +kernel)
set_option maxRecDepth 20000 in
theorem gX9_teller_X9_cellAt : GoodIn wsX9_teller (wsV RX9 61 RX9 yX9_cellAt wsX9_cellAt) := goodIn_app (goodIn_of _ (by decide +kernel)) ggX9_teller_X9_cellAt
theorem dX9_teller_0 : decode cX9_teller 0 = .ok (.iconst 0, 1) := by decide +kernel
theorem dX9_teller_1 : decode cX9_teller 1 = .ok (.istore_n 2, 1) := by decide +kernel
theorem dX9_teller_2 : decode cX9_teller 2 = .ok (.iload_n 2, 1) := by decide +kernel
theorem dX9_teller_3 : decode cX9_teller 3 = .ok (.bipush 8, 2) := by decide +kernel
theorem dX9_teller_5 : decode cX9_teller 5 = .ok (.if_icmp .ge 50, 3) := by decide +kernel
theorem dX9_teller_8 : decode cX9_teller 8 = .ok (.aload_n 0, 1) := by decide +kernel
theorem dX9_teller_9 : decode cX9_teller 9 = .ok (.iload_n 2, 1) := by decide +kernel
theorem dX9_teller_10 : decode cX9_teller 10 = .ok (.invokevirtual 82, 3) := by decide +kernel
theorem dX9_teller_13 : decode cX9_teller 13 = .ok (.ifCond .eq 36, 3) := by decide +kernel
theorem dX9_teller_16 : decode cX9_teller 16 = .ok (.aload_n 0, 1) := by decide +kernel
theorem dX9_teller_17 : decode cX9_teller 17 = .ok (.iload_n 2, 1) := by decide +kernel
theorem dX9_teller_18 : decode cX9_teller 18 = .ok (.iconst 4, 1) := by decide +kernel
theorem dX9_teller_19 : decode cX9_teller 19 = .ok (.idiv, 1) := by decide +kernel
theorem dX9_teller_20 : decode cX9_teller 20 = .ok (.iload_n 2, 1) := by decide +kernel
theorem dX9_teller_21 : decode cX9_teller 21 = .ok (.iconst 4, 1) := by decide +kernel
theorem dX9_teller_22 : decode cX9_teller 22 = .ok (.irem, 1) := by decide +kernel
theorem dX9_teller_23 : decode cX9_teller 23 = .ok (.iconst 0, 1) := by decide +kernel
theorem dX9_teller_24 : decode cX9_teller 24 = .ok (.invokevirtual 61, 3) := by decide +kernel
theorem dX9_teller_27 : decode cX9_teller 27 = .ok (.bipush 8, 2) := by decide +kernel
theorem dX9_teller_29 : decode cX9_teller 29 = .ok (.if_icmp .ne 20, 3) := by decide +kernel
theorem dX9_teller_32 : decode cX9_teller 32 = .ok (.aload_n 0, 1) := by decide +kernel
theorem dX9_teller_33 : decode cX9_teller 33 = .ok (.iload_n 2, 1) := by decide +kernel
theorem dX9_teller_34 : decode cX9_teller 34 = .ok (.iconst 4, 1) := by decide +kernel
theorem dX9_teller_35 : decode cX9_teller 35 = .ok (.idiv, 1) := by decide +kernel
theorem dX9_teller_36 : decode cX9_teller 36 = .ok (.iload_n 2, 1) := by decide +kernel
theorem dX9_teller_37 : decode cX9_teller 37 = .ok (.iconst 4, 1) := by decide +kernel
theorem dX9_teller_38 : decode cX9_teller 38 = .ok (.irem, 1) := by decide +kernel
theorem dX9_teller_39 : decode cX9_teller 39 = .ok (.iconst 1, 1) := by decide +kernel
theorem dX9_teller_40 : decode cX9_teller 40 = .ok (.invokevirtual 61, 3) := by decide +kernel
theorem dX9_teller_43 : decode cX9_teller 43 = .ok (.iload_n 1, 1) := by decide +kernel
theorem dX9_teller_44 : decode cX9_teller 44 = .ok (.if_icmp .ne 5, 3) := by decide +kernel
theorem dX9_teller_47 : decode cX9_teller 47 = .ok (.iload_n 2, 1) := by decide +kernel
theorem dX9_teller_48 : decode cX9_teller 48 = .ok (.ireturn, 1) := by decide +kernel
theorem dX9_teller_49 : decode cX9_teller 49 = .ok (.iinc 2 1, 3) := by decide +kernel
theorem dX9_teller_52 : decode cX9_teller 52 = .ok (.goto (-50), 3) := by decide +kernel
theorem dX9_teller_55 : decode cX9_teller 55 = .ok (.bipush (-14), 2) := by decide +kernel
theorem dX9_teller_57 : decode cX9_teller 57 = .ok (.ireturn, 1) := by decide +kernel
set_option maxRecDepth 20000 in
theorem ggX9_fitsCell_X9_cellAt : GoodIn wsX9_fitsCell wsX9_cellAt := goodIn_r _ [5, 6, 32, 33, 34, 35, 36, 37, 38, 39, 40, 41, 42, 43, 44] (by decide +kernel) (by decide +kernel)
set_option maxRecDepth 20000 in
theorem gX9_fitsCell_X9_cellAt : GoodIn wsX9_fitsCell (wsV RX9 61 RX9 yX9_cellAt wsX9_cellAt) := goodIn_app (goodIn_of _ (by decide +kernel)) ggX9_fitsCell_X9_cellAt
set_option maxRecDepth 20000 in
theorem ggX9_fitsCell_X9_at : GoodIn wsX9_fitsCell wsX9_at := goodIn_r _ [10, 6, 11, 12, 4, 13, 32, 33, 34, 35, 36, 37, 38, 39, 40, 41, 42, 43, 44] (by decide +kernel) (by decide +kernel)
set_option maxRecDepth 20000 in
theorem gX9_fitsCell_X9_at : GoodIn wsX9_fitsCell (wsV RX9 85 RX9 yX9_at wsX9_at) := goodIn_app (goodIn_of _ (by decide +kernel)) ggX9_fitsCell_X9_at
set_option maxRecDepth 20000 in
theorem ggX9_fitsCell_X9_fitsOne : GoodIn wsX9_fitsCell wsX9_fitsOne := goodIn_r _ [16, 17, 18, 4, 19] (by decide +kernel) (by decide +kernel)
set_option maxRecDepth 20000 in
theorem gX9_fitsCell_X9_fitsOne : GoodIn wsX9_fitsCell (va_wsS RX9 78 yX9_fitsOne wsX9_fitsOne) := goodIn_app (goodIn_of _ (by decide +kernel)) ggX9_fitsCell_X9_fitsOne
set_option maxRecDepth 20000 in
theorem ggX9_fitsCell_X9_teller : GoodIn wsX9_fitsCell wsX9_teller := goodIn_r _ [23, 24, 25, 26, 4, 27, 6, 28, 29, 30, 31, 1, 2, 3, 5, 32, 33, 34, 35, 36, 37, 38, 39, 40, 41, 42, 43, 44] (by decide +kernel) (by decide +kernel)
set_option maxRecDepth 20000 in
theorem gX9_fitsCell_X9_teller : GoodIn wsX9_fitsCell (wsV RX9 88 RX9 yX9_teller wsX9_teller) := goodIn_app (goodIn_of _ (by decide +kernel)) ggX9_fitsCell_X9_teller
theorem dX9_fitsCell_0 : decode cX9_fitsCell 0 = .ok (.aload_n 0, 1) := by decide +kernel
theorem dX9_fitsCell_1 : decode cX9_fitsCell 1 = .ok (.iload_n 3, 1) := by decide +kernel
theorem dX9_fitsCell_2 : decode cX9_fitsCell 2 = .ok (.iconst 4, 1) := by decide +kernel
theorem dX9_fitsCell_3 : decode cX9_fitsCell 3 = .ok (.idiv, 1) := by decide +kernel
theorem dX9_fitsCell_4 : decode cX9_fitsCell 4 = .ok (.iload_n 3, 1) := by decide +kernel
theorem dX9_fitsCell_5 : decode cX9_fitsCell 5 = .ok (.iconst 4, 1) := by decide +kernel
theorem dX9_fitsCell_6 : decode cX9_fitsCell 6 = .ok (.irem, 1) := by decide +kernel
theorem dX9_fitsCell_7 : decode cX9_fitsCell 7 = .ok (.iconst 0, 1) := by decide +kernel
theorem dX9_fitsCell_8 : decode cX9_fitsCell 8 = .ok (.invokevirtual 61, 3) := by decide +kernel
theorem dX9_fitsCell_11 : decode cX9_fitsCell 11 = .ok (.istore 4, 2) := by decide +kernel
theorem dX9_fitsCell_13 : decode cX9_fitsCell 13 = .ok (.aload_n 0, 1) := by decide +kernel
theorem dX9_fitsCell_14 : decode cX9_fitsCell 14 = .ok (.iload_n 3, 1) := by decide +kernel
theorem dX9_fitsCell_15 : decode cX9_fitsCell 15 = .ok (.iconst 4, 1) := by decide +kernel
theorem dX9_fitsCell_16 : decode cX9_fitsCell 16 = .ok (.idiv, 1) := by decide +kernel
theorem dX9_fitsCell_17 : decode cX9_fitsCell 17 = .ok (.iload_n 3, 1) := by decide +kernel
theorem dX9_fitsCell_18 : decode cX9_fitsCell 18 = .ok (.iconst 4, 1) := by decide +kernel
theorem dX9_fitsCell_19 : decode cX9_fitsCell 19 = .ok (.irem, 1) := by decide +kernel
theorem dX9_fitsCell_20 : decode cX9_fitsCell 20 = .ok (.iconst 1, 1) := by decide +kernel
theorem dX9_fitsCell_21 : decode cX9_fitsCell 21 = .ok (.invokevirtual 61, 3) := by decide +kernel
theorem dX9_fitsCell_24 : decode cX9_fitsCell 24 = .ok (.istore 5, 2) := by decide +kernel
theorem dX9_fitsCell_26 : decode cX9_fitsCell 26 = .ok (.aload_n 0, 1) := by decide +kernel
theorem dX9_fitsCell_27 : decode cX9_fitsCell 27 = .ok (.iload_n 1, 1) := by decide +kernel
theorem dX9_fitsCell_28 : decode cX9_fitsCell 28 = .ok (.iload_n 2, 1) := by decide +kernel
theorem dX9_fitsCell_29 : decode cX9_fitsCell 29 = .ok (.iload_n 3, 1) := by decide +kernel
theorem dX9_fitsCell_30 : decode cX9_fitsCell 30 = .ok (.invokevirtual 85, 3) := by decide +kernel
theorem dX9_fitsCell_33 : decode cX9_fitsCell 33 = .ok (.istore 6, 2) := by decide +kernel
theorem dX9_fitsCell_35 : decode cX9_fitsCell 35 = .ok (.iload 4, 2) := by decide +kernel
theorem dX9_fitsCell_37 : decode cX9_fitsCell 37 = .ok (.bipush 8, 2) := by decide +kernel
theorem dX9_fitsCell_39 : decode cX9_fitsCell 39 = .ok (.if_icmp .ge 24, 3) := by decide +kernel
theorem dX9_fitsCell_42 : decode cX9_fitsCell 42 = .ok (.iload 4, 2) := by decide +kernel
theorem dX9_fitsCell_44 : decode cX9_fitsCell 44 = .ok (.iload 5, 2) := by decide +kernel
theorem dX9_fitsCell_46 : decode cX9_fitsCell 46 = .ok (.aload_n 0, 1) := by decide +kernel
theorem dX9_fitsCell_47 : decode cX9_fitsCell 47 = .ok (.iload_n 3, 1) := by decide +kernel
theorem dX9_fitsCell_48 : decode cX9_fitsCell 48 = .ok (.iconst 4, 1) := by decide +kernel
theorem dX9_fitsCell_49 : decode cX9_fitsCell 49 = .ok (.idiv, 1) := by decide +kernel
theorem dX9_fitsCell_50 : decode cX9_fitsCell 50 = .ok (.iload_n 3, 1) := by decide +kernel
theorem dX9_fitsCell_51 : decode cX9_fitsCell 51 = .ok (.iconst 4, 1) := by decide +kernel
theorem dX9_fitsCell_52 : decode cX9_fitsCell 52 = .ok (.irem, 1) := by decide +kernel
theorem dX9_fitsCell_53 : decode cX9_fitsCell 53 = .ok (.iconst 2, 1) := by decide +kernel
theorem dX9_fitsCell_54 : decode cX9_fitsCell 54 = .ok (.invokevirtual 61, 3) := by decide +kernel
theorem dX9_fitsCell_57 : decode cX9_fitsCell 57 = .ok (.iload 6, 2) := by decide +kernel
theorem dX9_fitsCell_59 : decode cX9_fitsCell 59 = .ok (.invokestatic 78, 3) := by decide +kernel
theorem dX9_fitsCell_62 : decode cX9_fitsCell 62 = .ok (.ireturn, 1) := by decide +kernel
theorem dX9_fitsCell_63 : decode cX9_fitsCell 63 = .ok (.aload_n 0, 1) := by decide +kernel
theorem dX9_fitsCell_64 : decode cX9_fitsCell 64 = .ok (.iload 5, 2) := by decide +kernel
theorem dX9_fitsCell_66 : decode cX9_fitsCell 66 = .ok (.invokevirtual 88, 3) := by decide +kernel
theorem dX9_fitsCell_69 : decode cX9_fitsCell 69 = .ok (.istore 7, 2) := by decide +kernel
theorem dX9_fitsCell_71 : decode cX9_fitsCell 71 = .ok (.iload 7, 2) := by decide +kernel
theorem dX9_fitsCell_73 : decode cX9_fitsCell 73 = .ok (.ifCond .ge 7, 3) := by decide +kernel
theorem dX9_fitsCell_76 : decode cX9_fitsCell 76 = .ok (.iconst (-1), 1) := by decide +kernel
theorem dX9_fitsCell_77 : decode cX9_fitsCell 77 = .ok (.goto 11, 3) := by decide +kernel
theorem dX9_fitsCell_80 : decode cX9_fitsCell 80 = .ok (.aload_n 0, 1) := by decide +kernel
theorem dX9_fitsCell_81 : decode cX9_fitsCell 81 = .ok (.iload_n 1, 1) := by decide +kernel
theorem dX9_fitsCell_82 : decode cX9_fitsCell 82 = .ok (.iload_n 2, 1) := by decide +kernel
theorem dX9_fitsCell_83 : decode cX9_fitsCell 83 = .ok (.iload 7, 2) := by decide +kernel
theorem dX9_fitsCell_85 : decode cX9_fitsCell 85 = .ok (.invokevirtual 85, 3) := by decide +kernel
theorem dX9_fitsCell_88 : decode cX9_fitsCell 88 = .ok (.istore 8, 2) := by decide +kernel
theorem dX9_fitsCell_90 : decode cX9_fitsCell 90 = .ok (.iload 6, 2) := by decide +kernel
theorem dX9_fitsCell_92 : decode cX9_fitsCell 92 = .ok (.iconst (-1), 1) := by decide +kernel
theorem dX9_fitsCell_93 : decode cX9_fitsCell 93 = .ok (.if_icmp .eq 13, 3) := by decide +kernel
theorem dX9_fitsCell_96 : decode cX9_fitsCell 96 = .ok (.iload 8, 2) := by decide +kernel
theorem dX9_fitsCell_98 : decode cX9_fitsCell 98 = .ok (.iconst (-1), 1) := by decide +kernel
theorem dX9_fitsCell_99 : decode cX9_fitsCell 99 = .ok (.if_icmp .eq 7, 3) := by decide +kernel
theorem dX9_fitsCell_102 : decode cX9_fitsCell 102 = .ok (.iconst 1, 1) := by decide +kernel
theorem dX9_fitsCell_103 : decode cX9_fitsCell 103 = .ok (.goto 4, 3) := by decide +kernel
theorem dX9_fitsCell_106 : decode cX9_fitsCell 106 = .ok (.iconst 0, 1) := by decide +kernel
theorem dX9_fitsCell_107 : decode cX9_fitsCell 107 = .ok (.istore 9, 2) := by decide +kernel
theorem dX9_fitsCell_109 : decode cX9_fitsCell 109 = .ok (.iload 9, 2) := by decide +kernel
theorem dX9_fitsCell_111 : decode cX9_fitsCell 111 = .ok (.ifCond .eq 48, 3) := by decide +kernel
theorem dX9_fitsCell_114 : decode cX9_fitsCell 114 = .ok (.iload 4, 2) := by decide +kernel
theorem dX9_fitsCell_116 : decode cX9_fitsCell 116 = .ok (.bipush 8, 2) := by decide +kernel
theorem dX9_fitsCell_118 : decode cX9_fitsCell 118 = .ok (.if_icmp .ne 13, 3) := by decide +kernel
theorem dX9_fitsCell_121 : decode cX9_fitsCell 121 = .ok (.iload 6, 2) := by decide +kernel
theorem dX9_fitsCell_123 : decode cX9_fitsCell 123 = .ok (.iload 8, 2) := by decide +kernel
theorem dX9_fitsCell_125 : decode cX9_fitsCell 125 = .ok (.if_icmp .ne 34, 3) := by decide +kernel
theorem dX9_fitsCell_128 : decode cX9_fitsCell 128 = .ok (.goto 27, 3) := by decide +kernel
theorem dX9_fitsCell_131 : decode cX9_fitsCell 131 = .ok (.iload 4, 2) := by decide +kernel
theorem dX9_fitsCell_133 : decode cX9_fitsCell 133 = .ok (.bipush 9, 2) := by decide +kernel
theorem dX9_fitsCell_135 : decode cX9_fitsCell 135 = .ok (.if_icmp .ne 13, 3) := by decide +kernel
theorem dX9_fitsCell_138 : decode cX9_fitsCell 138 = .ok (.iload 6, 2) := by decide +kernel
theorem dX9_fitsCell_140 : decode cX9_fitsCell 140 = .ok (.iload 8, 2) := by decide +kernel
theorem dX9_fitsCell_142 : decode cX9_fitsCell 142 = .ok (.if_icmp .ge 17, 3) := by decide +kernel
theorem dX9_fitsCell_145 : decode cX9_fitsCell 145 = .ok (.goto 10, 3) := by decide +kernel
theorem dX9_fitsCell_148 : decode cX9_fitsCell 148 = .ok (.iload 6, 2) := by decide +kernel
theorem dX9_fitsCell_150 : decode cX9_fitsCell 150 = .ok (.iload 8, 2) := by decide +kernel
theorem dX9_fitsCell_152 : decode cX9_fitsCell 152 = .ok (.if_icmp .le 7, 3) := by decide +kernel
theorem dX9_fitsCell_155 : decode cX9_fitsCell 155 = .ok (.iconst 1, 1) := by decide +kernel
theorem dX9_fitsCell_156 : decode cX9_fitsCell 156 = .ok (.goto 4, 3) := by decide +kernel
theorem dX9_fitsCell_159 : decode cX9_fitsCell 159 = .ok (.iconst 0, 1) := by decide +kernel
theorem dX9_fitsCell_160 : decode cX9_fitsCell 160 = .ok (.ireturn, 1) := by decide +kernel
set_option maxRecDepth 20000 in
theorem ggX9_unfit_X9_isAsked : GoodIn wsX9_unfit wsX9_isAsked := goodIn_r _ [5, 6, 7, 8, 9, 4, 10, 36, 37, 38, 39, 40, 41, 42, 43, 44, 45, 46, 47, 48] (by decide +kernel) (by decide +kernel)
set_option maxRecDepth 20000 in
theorem gX9_unfit_X9_isAsked : GoodIn wsX9_unfit (wsV RX9 82 RX9 yX9_isAsked wsX9_isAsked) := goodIn_app (goodIn_of _ (by decide +kernel)) ggX9_unfit_X9_isAsked
set_option maxRecDepth 20000 in
theorem ggX9_unfit_X9_fitsCell : GoodIn wsX9_unfit wsX9_fitsCell := goodIn_r _ [14, 15, 16, 17, 4, 18, 6, 19, 20, 21, 22, 23, 24, 25, 26, 27, 28, 29, 30, 31, 32, 33, 34, 35, 1, 2, 3, 5, 7, 8, 9, 10, 36, 37, 38, 39, 40, 41, 42, 43, 44, 45, 46, 47, 48] (by decide +kernel) (by decide +kernel)
set_option maxRecDepth 20000 in
theorem gX9_unfit_X9_fitsCell : GoodIn wsX9_unfit (wsV RX9 91 RX9 yX9_fitsCell wsX9_fitsCell) := goodIn_app (goodIn_of _ (by decide +kernel)) ggX9_unfit_X9_fitsCell
theorem dX9_unfit_0 : decode cX9_unfit 0 = .ok (.iconst 0, 1) := by decide +kernel
theorem dX9_unfit_1 : decode cX9_unfit 1 = .ok (.istore_n 3, 1) := by decide +kernel
theorem dX9_unfit_2 : decode cX9_unfit 2 = .ok (.iload_n 3, 1) := by decide +kernel
theorem dX9_unfit_3 : decode cX9_unfit 3 = .ok (.bipush 8, 2) := by decide +kernel
theorem dX9_unfit_5 : decode cX9_unfit 5 = .ok (.if_icmp .ge 29, 3) := by decide +kernel
theorem dX9_unfit_8 : decode cX9_unfit 8 = .ok (.aload_n 0, 1) := by decide +kernel
theorem dX9_unfit_9 : decode cX9_unfit 9 = .ok (.iload_n 3, 1) := by decide +kernel
theorem dX9_unfit_10 : decode cX9_unfit 10 = .ok (.invokevirtual 82, 3) := by decide +kernel
theorem dX9_unfit_13 : decode cX9_unfit 13 = .ok (.ifCond .eq 15, 3) := by decide +kernel
theorem dX9_unfit_16 : decode cX9_unfit 16 = .ok (.aload_n 0, 1) := by decide +kernel
theorem dX9_unfit_17 : decode cX9_unfit 17 = .ok (.iload_n 1, 1) := by decide +kernel
theorem dX9_unfit_18 : decode cX9_unfit 18 = .ok (.iload_n 2, 1) := by decide +kernel
theorem dX9_unfit_19 : decode cX9_unfit 19 = .ok (.iload_n 3, 1) := by decide +kernel
theorem dX9_unfit_20 : decode cX9_unfit 20 = .ok (.invokevirtual 91, 3) := by decide +kernel
theorem dX9_unfit_23 : decode cX9_unfit 23 = .ok (.ifCond .ne 5, 3) := by decide +kernel
theorem dX9_unfit_26 : decode cX9_unfit 26 = .ok (.iload_n 3, 1) := by decide +kernel
theorem dX9_unfit_27 : decode cX9_unfit 27 = .ok (.ireturn, 1) := by decide +kernel
theorem dX9_unfit_28 : decode cX9_unfit 28 = .ok (.iinc 3 1, 3) := by decide +kernel
theorem dX9_unfit_31 : decode cX9_unfit 31 = .ok (.goto (-29), 3) := by decide +kernel
theorem dX9_unfit_34 : decode cX9_unfit 34 = .ok (.bipush (-14), 2) := by decide +kernel
theorem dX9_unfit_36 : decode cX9_unfit 36 = .ok (.ireturn, 1) := by decide +kernel
set_option maxRecDepth 20000 in
theorem ggX9_isBehind_X9_isAsked : GoodIn wsX9_isBehind wsX9_isAsked := goodIn_r _ [6, 1, 7, 8, 9, 5, 10, 18, 19, 20, 21, 22, 23, 24, 25, 26, 27, 28, 29, 30] (by decide +kernel) (by decide +kernel)
set_option maxRecDepth 20000 in
theorem gX9_isBehind_X9_isAsked : GoodIn wsX9_isBehind (wsV RX9 82 RX9 yX9_isAsked wsX9_isAsked) := goodIn_app (goodIn_of _ (by decide +kernel)) ggX9_isBehind_X9_isAsked
set_option maxRecDepth 20000 in
theorem ggX9_isBehind_X9_at : GoodIn wsX9_isBehind wsX9_at := goodIn_r _ [14, 1, 15, 16, 5, 17, 18, 19, 20, 21, 22, 23, 24, 25, 26, 27, 28, 29, 30] (by decide +kernel) (by decide +kernel)
set_option maxRecDepth 20000 in
theorem gX9_isBehind_X9_at : GoodIn wsX9_isBehind (wsV RX9 85 RX9 yX9_at wsX9_at) := goodIn_app (goodIn_of _ (by decide +kernel)) ggX9_isBehind_X9_at
theorem dX9_isBehind_0 : decode cX9_isBehind 0 = .ok (.iconst 0, 1) := by decide +kernel
theorem dX9_isBehind_1 : decode cX9_isBehind 1 = .ok (.istore 5, 2) := by decide +kernel
theorem dX9_isBehind_3 : decode cX9_isBehind 3 = .ok (.iload 5, 2) := by decide +kernel
theorem dX9_isBehind_5 : decode cX9_isBehind 5 = .ok (.iconst 2, 1) := by decide +kernel
theorem dX9_isBehind_6 : decode cX9_isBehind 6 = .ok (.if_icmp .ge 108, 3) := by decide +kernel
theorem dX9_isBehind_9 : decode cX9_isBehind 9 = .ok (.aload_n 0, 1) := by decide +kernel
theorem dX9_isBehind_10 : decode cX9_isBehind 10 = .ok (.getfield 7, 3) := by decide +kernel
theorem dX9_isBehind_13 : decode cX9_isBehind 13 = .ok (.bipush 125, 2) := by decide +kernel
theorem dX9_isBehind_15 : decode cX9_isBehind 15 = .ok (.iconst 2, 1) := by decide +kernel
theorem dX9_isBehind_16 : decode cX9_isBehind 16 = .ok (.iload 5, 2) := by decide +kernel
theorem dX9_isBehind_18 : decode cX9_isBehind 18 = .ok (.imul, 1) := by decide +kernel
theorem dX9_isBehind_19 : decode cX9_isBehind 19 = .ok (.iadd, 1) := by decide +kernel
theorem dX9_isBehind_20 : decode cX9_isBehind 20 = .ok (.iaload, 1) := by decide +kernel
theorem dX9_isBehind_21 : decode cX9_isBehind 21 = .ok (.istore 6, 2) := by decide +kernel
theorem dX9_isBehind_23 : decode cX9_isBehind 23 = .ok (.iload 6, 2) := by decide +kernel
theorem dX9_isBehind_25 : decode cX9_isBehind 25 = .ok (.ifCond .lt 33, 3) := by decide +kernel
theorem dX9_isBehind_28 : decode cX9_isBehind 28 = .ok (.aload_n 0, 1) := by decide +kernel
theorem dX9_isBehind_29 : decode cX9_isBehind 29 = .ok (.iload 6, 2) := by decide +kernel
theorem dX9_isBehind_31 : decode cX9_isBehind 31 = .ok (.invokevirtual 82, 3) := by decide +kernel
theorem dX9_isBehind_34 : decode cX9_isBehind 34 = .ok (.ifCond .eq 24, 3) := by decide +kernel
theorem dX9_isBehind_37 : decode cX9_isBehind 37 = .ok (.aload_n 0, 1) := by decide +kernel
theorem dX9_isBehind_38 : decode cX9_isBehind 38 = .ok (.iload_n 1, 1) := by decide +kernel
theorem dX9_isBehind_39 : decode cX9_isBehind 39 = .ok (.iload_n 2, 1) := by decide +kernel
theorem dX9_isBehind_40 : decode cX9_isBehind 40 = .ok (.iload 6, 2) := by decide +kernel
theorem dX9_isBehind_42 : decode cX9_isBehind 42 = .ok (.invokevirtual 85, 3) := by decide +kernel
theorem dX9_isBehind_45 : decode cX9_isBehind 45 = .ok (.aload_n 0, 1) := by decide +kernel
theorem dX9_isBehind_46 : decode cX9_isBehind 46 = .ok (.iload_n 3, 1) := by decide +kernel
theorem dX9_isBehind_47 : decode cX9_isBehind 47 = .ok (.iload 4, 2) := by decide +kernel
theorem dX9_isBehind_49 : decode cX9_isBehind 49 = .ok (.iload 6, 2) := by decide +kernel
theorem dX9_isBehind_51 : decode cX9_isBehind 51 = .ok (.invokevirtual 85, 3) := by decide +kernel
theorem dX9_isBehind_54 : decode cX9_isBehind 54 = .ok (.isub, 1) := by decide +kernel
theorem dX9_isBehind_55 : decode cX9_isBehind 55 = .ok (.goto 4, 3) := by decide +kernel
theorem dX9_isBehind_58 : decode cX9_isBehind 58 = .ok (.iconst 0, 1) := by decide +kernel
theorem dX9_isBehind_59 : decode cX9_isBehind 59 = .ok (.istore 7, 2) := by decide +kernel
theorem dX9_isBehind_61 : decode cX9_isBehind 61 = .ok (.iload 7, 2) := by decide +kernel
theorem dX9_isBehind_63 : decode cX9_isBehind 63 = .ok (.ifCond .eq 45, 3) := by decide +kernel
theorem dX9_isBehind_66 : decode cX9_isBehind 66 = .ok (.aload_n 0, 1) := by decide +kernel
theorem dX9_isBehind_67 : decode cX9_isBehind 67 = .ok (.getfield 7, 3) := by decide +kernel
theorem dX9_isBehind_70 : decode cX9_isBehind 70 = .ok (.bipush 125, 2) := by decide +kernel
theorem dX9_isBehind_72 : decode cX9_isBehind 72 = .ok (.iconst 2, 1) := by decide +kernel
theorem dX9_isBehind_73 : decode cX9_isBehind 73 = .ok (.iload 5, 2) := by decide +kernel
theorem dX9_isBehind_75 : decode cX9_isBehind 75 = .ok (.imul, 1) := by decide +kernel
theorem dX9_isBehind_76 : decode cX9_isBehind 76 = .ok (.iadd, 1) := by decide +kernel
theorem dX9_isBehind_77 : decode cX9_isBehind 77 = .ok (.iconst 1, 1) := by decide +kernel
theorem dX9_isBehind_78 : decode cX9_isBehind 78 = .ok (.iadd, 1) := by decide +kernel
theorem dX9_isBehind_79 : decode cX9_isBehind 79 = .ok (.iaload, 1) := by decide +kernel
theorem dX9_isBehind_80 : decode cX9_isBehind 80 = .ok (.iconst 1, 1) := by decide +kernel
theorem dX9_isBehind_81 : decode cX9_isBehind 81 = .ok (.if_icmp .ne 16, 3) := by decide +kernel
theorem dX9_isBehind_84 : decode cX9_isBehind 84 = .ok (.iload 7, 2) := by decide +kernel
theorem dX9_isBehind_86 : decode cX9_isBehind 86 = .ok (.ifCond .ge 7, 3) := by decide +kernel
theorem dX9_isBehind_89 : decode cX9_isBehind 89 = .ok (.iconst 1, 1) := by decide +kernel
theorem dX9_isBehind_90 : decode cX9_isBehind 90 = .ok (.goto 17, 3) := by decide +kernel
theorem dX9_isBehind_93 : decode cX9_isBehind 93 = .ok (.iconst 0, 1) := by decide +kernel
theorem dX9_isBehind_94 : decode cX9_isBehind 94 = .ok (.goto 13, 3) := by decide +kernel
theorem dX9_isBehind_97 : decode cX9_isBehind 97 = .ok (.iload 7, 2) := by decide +kernel
theorem dX9_isBehind_99 : decode cX9_isBehind 99 = .ok (.ifCond .le 7, 3) := by decide +kernel
theorem dX9_isBehind_102 : decode cX9_isBehind 102 = .ok (.iconst 1, 1) := by decide +kernel
theorem dX9_isBehind_103 : decode cX9_isBehind 103 = .ok (.goto 4, 3) := by decide +kernel
theorem dX9_isBehind_106 : decode cX9_isBehind 106 = .ok (.iconst 0, 1) := by decide +kernel
theorem dX9_isBehind_107 : decode cX9_isBehind 107 = .ok (.ireturn, 1) := by decide +kernel
theorem dX9_isBehind_108 : decode cX9_isBehind 108 = .ok (.iinc 5 1, 3) := by decide +kernel
theorem dX9_isBehind_111 : decode cX9_isBehind 111 = .ok (.goto (-108), 3) := by decide +kernel
theorem dX9_isBehind_114 : decode cX9_isBehind 114 = .ok (.iconst 0, 1) := by decide +kernel
theorem dX9_isBehind_115 : decode cX9_isBehind 115 = .ok (.ireturn, 1) := by decide +kernel
set_option maxRecDepth 20000 in
theorem ggX9_lays_X9_isBehind : GoodIn wsX9_lays wsX9_isBehind := goodIn_r _ [8, 9, 10, 11, 12, 7, 13, 14, 15, 16, 17, 18, 19, 20, 21, 22, 23, 24, 25, 26, 27, 28, 29, 30, 31, 32, 33, 34, 35, 36, 37] (by decide +kernel) (by decide +kernel)
set_option maxRecDepth 20000 in
theorem gX9_lays_X9_isBehind : GoodIn wsX9_lays (wsV RX9 94 RX9 yX9_isBehind wsX9_isBehind) := goodIn_app (goodIn_of _ (by decide +kernel)) ggX9_lays_X9_isBehind
theorem dX9_lays_0 : decode cX9_lays 0 = .ok (.aload_n 0, 1) := by decide +kernel
theorem dX9_lays_1 : decode cX9_lays 1 = .ok (.getfield 71, 3) := by decide +kernel
theorem dX9_lays_4 : decode cX9_lays 4 = .ok (.istore_n 3, 1) := by decide +kernel
theorem dX9_lays_5 : decode cX9_lays 5 = .ok (.iload_n 3, 1) := by decide +kernel
theorem dX9_lays_6 : decode cX9_lays 6 = .ok (.ifCond .le 62, 3) := by decide +kernel
theorem dX9_lays_9 : decode cX9_lays 9 = .ok (.aload_n 0, 1) := by decide +kernel
theorem dX9_lays_10 : decode cX9_lays 10 = .ok (.aload_n 0, 1) := by decide +kernel
theorem dX9_lays_11 : decode cX9_lays 11 = .ok (.getfield 19, 3) := by decide +kernel
theorem dX9_lays_14 : decode cX9_lays 14 = .ok (.iload_n 3, 1) := by decide +kernel
theorem dX9_lays_15 : decode cX9_lays 15 = .ok (.iconst 1, 1) := by decide +kernel
theorem dX9_lays_16 : decode cX9_lays 16 = .ok (.isub, 1) := by decide +kernel
theorem dX9_lays_17 : decode cX9_lays 17 = .ok (.iaload, 1) := by decide +kernel
theorem dX9_lays_18 : decode cX9_lays 18 = .ok (.aload_n 0, 1) := by decide +kernel
theorem dX9_lays_19 : decode cX9_lays 19 = .ok (.getfield 22, 3) := by decide +kernel
theorem dX9_lays_22 : decode cX9_lays 22 = .ok (.iload_n 3, 1) := by decide +kernel
theorem dX9_lays_23 : decode cX9_lays 23 = .ok (.iconst 1, 1) := by decide +kernel
theorem dX9_lays_24 : decode cX9_lays 24 = .ok (.isub, 1) := by decide +kernel
theorem dX9_lays_25 : decode cX9_lays 25 = .ok (.iaload, 1) := by decide +kernel
theorem dX9_lays_26 : decode cX9_lays 26 = .ok (.iload_n 1, 1) := by decide +kernel
theorem dX9_lays_27 : decode cX9_lays 27 = .ok (.iload_n 2, 1) := by decide +kernel
theorem dX9_lays_28 : decode cX9_lays 28 = .ok (.invokevirtual 94, 3) := by decide +kernel
theorem dX9_lays_31 : decode cX9_lays 31 = .ok (.ifCond .eq 37, 3) := by decide +kernel
theorem dX9_lays_34 : decode cX9_lays 34 = .ok (.aload_n 0, 1) := by decide +kernel
theorem dX9_lays_35 : decode cX9_lays 35 = .ok (.getfield 19, 3) := by decide +kernel
theorem dX9_lays_38 : decode cX9_lays 38 = .ok (.iload_n 3, 1) := by decide +kernel
theorem dX9_lays_39 : decode cX9_lays 39 = .ok (.aload_n 0, 1) := by decide +kernel
theorem dX9_lays_40 : decode cX9_lays 40 = .ok (.getfield 19, 3) := by decide +kernel
theorem dX9_lays_43 : decode cX9_lays 43 = .ok (.iload_n 3, 1) := by decide +kernel
theorem dX9_lays_44 : decode cX9_lays 44 = .ok (.iconst 1, 1) := by decide +kernel
theorem dX9_lays_45 : decode cX9_lays 45 = .ok (.isub, 1) := by decide +kernel
theorem dX9_lays_46 : decode cX9_lays 46 = .ok (.iaload, 1) := by decide +kernel
theorem dX9_lays_47 : decode cX9_lays 47 = .ok (.iastore, 1) := by decide +kernel
theorem dX9_lays_48 : decode cX9_lays 48 = .ok (.aload_n 0, 1) := by decide +kernel
theorem dX9_lays_49 : decode cX9_lays 49 = .ok (.getfield 22, 3) := by decide +kernel
theorem dX9_lays_52 : decode cX9_lays 52 = .ok (.iload_n 3, 1) := by decide +kernel
theorem dX9_lays_53 : decode cX9_lays 53 = .ok (.aload_n 0, 1) := by decide +kernel
theorem dX9_lays_54 : decode cX9_lays 54 = .ok (.getfield 22, 3) := by decide +kernel
theorem dX9_lays_57 : decode cX9_lays 57 = .ok (.iload_n 3, 1) := by decide +kernel
theorem dX9_lays_58 : decode cX9_lays 58 = .ok (.iconst 1, 1) := by decide +kernel
theorem dX9_lays_59 : decode cX9_lays 59 = .ok (.isub, 1) := by decide +kernel
theorem dX9_lays_60 : decode cX9_lays 60 = .ok (.iaload, 1) := by decide +kernel
theorem dX9_lays_61 : decode cX9_lays 61 = .ok (.iastore, 1) := by decide +kernel
theorem dX9_lays_62 : decode cX9_lays 62 = .ok (.iinc 3 (-1), 3) := by decide +kernel
theorem dX9_lays_65 : decode cX9_lays 65 = .ok (.goto (-60), 3) := by decide +kernel
theorem dX9_lays_68 : decode cX9_lays 68 = .ok (.aload_n 0, 1) := by decide +kernel
theorem dX9_lays_69 : decode cX9_lays 69 = .ok (.getfield 19, 3) := by decide +kernel
theorem dX9_lays_72 : decode cX9_lays 72 = .ok (.iload_n 3, 1) := by decide +kernel
theorem dX9_lays_73 : decode cX9_lays 73 = .ok (.iload_n 1, 1) := by decide +kernel
theorem dX9_lays_74 : decode cX9_lays 74 = .ok (.iastore, 1) := by decide +kernel
theorem dX9_lays_75 : decode cX9_lays 75 = .ok (.aload_n 0, 1) := by decide +kernel
theorem dX9_lays_76 : decode cX9_lays 76 = .ok (.getfield 22, 3) := by decide +kernel
theorem dX9_lays_79 : decode cX9_lays 79 = .ok (.iload_n 3, 1) := by decide +kernel
theorem dX9_lays_80 : decode cX9_lays 80 = .ok (.iload_n 2, 1) := by decide +kernel
theorem dX9_lays_81 : decode cX9_lays 81 = .ok (.iastore, 1) := by decide +kernel
theorem dX9_lays_82 : decode cX9_lays 82 = .ok (.aload_n 0, 1) := by decide +kernel
theorem dX9_lays_83 : decode cX9_lays 83 = .ok (.dup, 1) := by decide +kernel
theorem dX9_lays_84 : decode cX9_lays 84 = .ok (.getfield 71, 3) := by decide +kernel
theorem dX9_lays_87 : decode cX9_lays 87 = .ok (.iconst 1, 1) := by decide +kernel
theorem dX9_lays_88 : decode cX9_lays 88 = .ok (.iadd, 1) := by decide +kernel
theorem dX9_lays_89 : decode cX9_lays 89 = .ok (.putfield 71, 3) := by decide +kernel
theorem dX9_lays_92 : decode cX9_lays 92 = .ok (.return_, 1) := by decide +kernel
set_option maxRecDepth 20000 in
theorem ggX9_finds_X9_unfit : GoodIn wsX9_finds wsX9_unfit := goodIn_r _ [7, 8, 9, 10, 6, 11, 2, 12, 13, 14, 15, 16, 17, 18, 19, 20, 21, 22, 23, 24, 25, 26, 27, 28, 29, 30, 31, 32, 33, 34, 35, 36, 37, 38, 39, 40, 51, 52, 53, 54, 55, 56, 57, 58, 59, 60, 61, 62, 63] (by decide +kernel) (by decide +kernel)
set_option maxRecDepth 20000 in
theorem gX9_finds_X9_unfit : GoodIn wsX9_finds (wsV RX9 97 RX9 yX9_unfit wsX9_unfit) := goodIn_app (goodIn_of _ (by decide +kernel)) ggX9_finds_X9_unfit
set_option maxRecDepth 20000 in
theorem ggX9_finds_X9_lays : GoodIn wsX9_finds wsX9_lays := goodIn_r _ [44, 1, 45, 46, 47, 48, 49, 6, 50, 2, 8, 9, 10, 11, 12, 13, 14, 15, 24, 25, 26, 27, 28, 29, 30, 51, 52, 53, 54, 55, 56, 57, 58, 59, 60, 61, 62, 63] (by decide +kernel) (by decide +kernel)
set_option maxRecDepth 20000 in
theorem gX9_finds_X9_lays : GoodIn wsX9_finds (wsV RX9 101 RX9 yX9_lays wsX9_lays) := goodIn_app (goodIn_of _ (by decide +kernel)) ggX9_finds_X9_lays
theorem dX9_finds_0 : decode cX9_finds 0 = .ok (.aload_n 0, 1) := by decide +kernel
theorem dX9_finds_1 : decode cX9_finds 1 = .ok (.iconst 0, 1) := by decide +kernel
theorem dX9_finds_2 : decode cX9_finds 2 = .ok (.putfield 71, 3) := by decide +kernel
theorem dX9_finds_5 : decode cX9_finds 5 = .ok (.aload_n 0, 1) := by decide +kernel
theorem dX9_finds_6 : decode cX9_finds 6 = .ok (.getfield 7, 3) := by decide +kernel
theorem dX9_finds_9 : decode cX9_finds 9 = .ok (.bipush 124, 2) := by decide +kernel
theorem dX9_finds_11 : decode cX9_finds 11 = .ok (.iaload, 1) := by decide +kernel
theorem dX9_finds_12 : decode cX9_finds 12 = .ok (.iconst 1, 1) := by decide +kernel
theorem dX9_finds_13 : decode cX9_finds 13 = .ok (.if_icmp .ne 12, 3) := by decide +kernel
theorem dX9_finds_16 : decode cX9_finds 16 = .ok (.aload_n 0, 1) := by decide +kernel
theorem dX9_finds_17 : decode cX9_finds 17 = .ok (.getfield 7, 3) := by decide +kernel
theorem dX9_finds_20 : decode cX9_finds 20 = .ok (.iconst 3, 1) := by decide +kernel
theorem dX9_finds_21 : decode cX9_finds 21 = .ok (.iaload, 1) := by decide +kernel
theorem dX9_finds_22 : decode cX9_finds 22 = .ok (.goto 4, 3) := by decide +kernel
theorem dX9_finds_25 : decode cX9_finds 25 = .ok (.iconst 1, 1) := by decide +kernel
theorem dX9_finds_26 : decode cX9_finds 26 = .ok (.istore_n 1, 1) := by decide +kernel
theorem dX9_finds_27 : decode cX9_finds 27 = .ok (.iconst 0, 1) := by decide +kernel
theorem dX9_finds_28 : decode cX9_finds 28 = .ok (.istore_n 2, 1) := by decide +kernel
theorem dX9_finds_29 : decode cX9_finds 29 = .ok (.iload_n 2, 1) := by decide +kernel
theorem dX9_finds_30 : decode cX9_finds 30 = .ok (.aload_n 0, 1) := by decide +kernel
theorem dX9_finds_31 : decode cX9_finds 31 = .ok (.getfield 7, 3) := by decide +kernel
theorem dX9_finds_34 : decode cX9_finds 34 = .ok (.iconst 2, 1) := by decide +kernel
theorem dX9_finds_35 : decode cX9_finds 35 = .ok (.iaload, 1) := by decide +kernel
theorem dX9_finds_36 : decode cX9_finds 36 = .ok (.if_icmp .ge 39, 3) := by decide +kernel
theorem dX9_finds_39 : decode cX9_finds 39 = .ok (.iconst 0, 1) := by decide +kernel
theorem dX9_finds_40 : decode cX9_finds 40 = .ok (.istore_n 3, 1) := by decide +kernel
theorem dX9_finds_41 : decode cX9_finds 41 = .ok (.iload_n 3, 1) := by decide +kernel
theorem dX9_finds_42 : decode cX9_finds 42 = .ok (.iload_n 1, 1) := by decide +kernel
theorem dX9_finds_43 : decode cX9_finds 43 = .ok (.if_icmp .ge 26, 3) := by decide +kernel
theorem dX9_finds_46 : decode cX9_finds 46 = .ok (.aload_n 0, 1) := by decide +kernel
theorem dX9_finds_47 : decode cX9_finds 47 = .ok (.iload_n 2, 1) := by decide +kernel
theorem dX9_finds_48 : decode cX9_finds 48 = .ok (.iload_n 3, 1) := by decide +kernel
theorem dX9_finds_49 : decode cX9_finds 49 = .ok (.invokevirtual 97, 3) := by decide +kernel
theorem dX9_finds_52 : decode cX9_finds 52 = .ok (.bipush (-14), 2) := by decide +kernel
theorem dX9_finds_54 : decode cX9_finds 54 = .ok (.if_icmp .ne 9, 3) := by decide +kernel
theorem dX9_finds_57 : decode cX9_finds 57 = .ok (.aload_n 0, 1) := by decide +kernel
theorem dX9_finds_58 : decode cX9_finds 58 = .ok (.iload_n 2, 1) := by decide +kernel
theorem dX9_finds_59 : decode cX9_finds 59 = .ok (.iload_n 3, 1) := by decide +kernel
theorem dX9_finds_60 : decode cX9_finds 60 = .ok (.invokevirtual 101, 3) := by decide +kernel
theorem dX9_finds_63 : decode cX9_finds 63 = .ok (.iinc 3 1, 3) := by decide +kernel
theorem dX9_finds_66 : decode cX9_finds 66 = .ok (.goto (-25), 3) := by decide +kernel
theorem dX9_finds_69 : decode cX9_finds 69 = .ok (.iinc 2 1, 3) := by decide +kernel
theorem dX9_finds_72 : decode cX9_finds 72 = .ok (.goto (-43), 3) := by decide +kernel
theorem dX9_finds_75 : decode cX9_finds 75 = .ok (.return_, 1) := by decide +kernel
set_option maxRecDepth 20000 in
theorem ggX9_many_X9_finds : GoodIn wsX9_many wsX9_finds := goodIn_r _ [6, 1, 7, 8, 9, 10, 5, 11, 12, 13, 14, 15, 16, 17, 18, 19, 20, 21, 22, 23, 24, 25, 26, 27, 28, 29, 30, 31, 32, 33, 34, 35, 36, 37, 38, 39, 40, 41, 42, 43, 44, 45, 46, 47, 48, 49, 50, 51, 52, 53, 54, 55, 56, 57, 58, 59, 60, 61, 62, 63, 64, 65, 66, 67] (by decide +kernel) (by decide +kernel)
set_option maxRecDepth 20000 in
theorem gX9_many_X9_finds : GoodIn wsX9_many (wsV RX9 68 RX9 yX9_finds wsX9_finds) := goodIn_app (goodIn_of _ (by decide +kernel)) ggX9_many_X9_finds
theorem dX9_many_0 : decode cX9_many 0 = .ok (.aload_n 0, 1) := by decide +kernel
theorem dX9_many_1 : decode cX9_many 1 = .ok (.invokevirtual 68, 3) := by decide +kernel
theorem dX9_many_4 : decode cX9_many 4 = .ok (.aload_n 0, 1) := by decide +kernel
theorem dX9_many_5 : decode cX9_many 5 = .ok (.getfield 71, 3) := by decide +kernel
theorem dX9_many_8 : decode cX9_many 8 = .ok (.ireturn, 1) := by decide +kernel
set_option maxRecDepth 20000 in
theorem ggX9_areAlike_X9_isAsked : GoodIn wsX9_areAlike wsX9_isAsked := goodIn_r _ [8, 1, 9, 10, 11, 7, 12, 20, 21, 22, 23, 24, 25, 26, 27, 28, 29, 30, 31, 32] (by decide +kernel) (by decide +kernel)
set_option maxRecDepth 20000 in
theorem gX9_areAlike_X9_isAsked : GoodIn wsX9_areAlike (wsV RX9 82 RX9 yX9_isAsked wsX9_isAsked) := goodIn_app (goodIn_of _ (by decide +kernel)) ggX9_areAlike_X9_isAsked
set_option maxRecDepth 20000 in
theorem ggX9_areAlike_X9_at : GoodIn wsX9_areAlike wsX9_at := goodIn_r _ [16, 1, 17, 18, 7, 19, 20, 21, 22, 23, 24, 25, 26, 27, 28, 29, 30, 31, 32] (by decide +kernel) (by decide +kernel)
set_option maxRecDepth 20000 in
theorem gX9_areAlike_X9_at : GoodIn wsX9_areAlike (wsV RX9 85 RX9 yX9_at wsX9_at) := goodIn_app (goodIn_of _ (by decide +kernel)) ggX9_areAlike_X9_at
