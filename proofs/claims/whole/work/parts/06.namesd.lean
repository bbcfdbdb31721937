theorem dX6_init_53 : decode cX6_init 53 = .ok (.iconst 0, 1) := by decide +kernel
theorem dX6_init_54 : decode cX6_init 54 = .ok (.putfield 33, 3) := by decide +kernel
theorem dX6_init_57 : decode cX6_init 57 = .ok (.aload_n 0, 1) := by decide +kernel
theorem dX6_init_58 : decode cX6_init 58 = .ok (.sipush 255, 3) := by decide +kernel
theorem dX6_init_61 : decode cX6_init 61 = .ok (.putfield 37, 3) := by decide +kernel
theorem dX6_init_64 : decode cX6_init 64 = .ok (.return_, 1) := by decide +kernel
theorem dX6_drawer_0 : decode cX6_drawer 0 = .ok (.iload_n 1, 1) := by decide +kernel
theorem dX6_drawer_1 : decode cX6_drawer 1 = .ok (.ifCond .ne 10, 3) := by decide +kernel
theorem dX6_drawer_4 : decode cX6_drawer 4 = .ok (.aload_n 0, 1) := by decide +kernel
theorem dX6_drawer_5 : decode cX6_drawer 5 = .ok (.getfield 12, 3) := by decide +kernel
theorem dX6_drawer_8 : decode cX6_drawer 8 = .ok (.goto 7, 3) := by decide +kernel
theorem dX6_drawer_11 : decode cX6_drawer 11 = .ok (.aload_n 0, 1) := by decide +kernel
theorem dX6_drawer_12 : decode cX6_drawer 12 = .ok (.getfield 18, 3) := by decide +kernel
theorem dX6_drawer_15 : decode cX6_drawer 15 = .ok (.areturn, 1) := by decide +kernel
theorem dX6_isOfBoth_0 : decode cX6_isOfBoth 0 = .ok (.aload_n 0, 1) := by decide +kernel
theorem dX6_isOfBoth_1 : decode cX6_isOfBoth 1 = .ok (.getfield 33, 3) := by decide +kernel
theorem dX6_isOfBoth_4 : decode cX6_isOfBoth 4 = .ok (.iconst 1, 1) := by decide +kernel
theorem dX6_isOfBoth_5 : decode cX6_isOfBoth 5 = .ok (.if_icmp .ne 7, 3) := by decide +kernel
theorem dX6_isOfBoth_8 : decode cX6_isOfBoth 8 = .ok (.iconst 1, 1) := by decide +kernel
theorem dX6_isOfBoth_9 : decode cX6_isOfBoth 9 = .ok (.goto 4, 3) := by decide +kernel
theorem dX6_isOfBoth_12 : decode cX6_isOfBoth 12 = .ok (.iconst 0, 1) := by decide +kernel
theorem dX6_isOfBoth_13 : decode cX6_isOfBoth 13 = .ok (.ireturn, 1) := by decide +kernel
theorem dX6_askBoth_0 : decode cX6_askBoth 0 = .ok (.aload_n 0, 1) := by decide +kernel
theorem dX6_askBoth_1 : decode cX6_askBoth 1 = .ok (.getfield 33, 3) := by decide +kernel
theorem dX6_askBoth_4 : decode cX6_askBoth 4 = .ok (.istore_n 2, 1) := by decide +kernel
theorem dX6_askBoth_5 : decode cX6_askBoth 5 = .ok (.aload_n 0, 1) := by decide +kernel
theorem dX6_askBoth_6 : decode cX6_askBoth 6 = .ok (.iload_n 1, 1) := by decide +kernel
theorem dX6_askBoth_7 : decode cX6_askBoth 7 = .ok (.putfield 33, 3) := by decide +kernel
theorem dX6_askBoth_10 : decode cX6_askBoth 10 = .ok (.iload_n 2, 1) := by decide +kernel
theorem dX6_askBoth_11 : decode cX6_askBoth 11 = .ok (.ireturn, 1) := by decide +kernel
set_option maxRecDepth 20000 in
theorem ggX6_orderColumn_X3_at : GoodIn wsX6_orderColumn wsX3_at := goodIn_r _ [6, 7, 14] (by decide +kernel) (by decide +kernel)
set_option maxRecDepth 20000 in
theorem gX6_orderColumn_X3_at : GoodIn wsX6_orderColumn (wsV RX6 40 RX3 yX3_at wsX3_at) := goodIn_app (goodIn_of _ (by decide +kernel)) ggX6_orderColumn_X3_at
theorem dX6_orderColumn_0 : decode cX6_orderColumn 0 = .ok (.aload_n 0, 1) := by decide +kernel
theorem dX6_orderColumn_1 : decode cX6_orderColumn 1 = .ok (.getfield 26, 3) := by decide +kernel
theorem dX6_orderColumn_4 : decode cX6_orderColumn 4 = .ok (.iload_n 1, 1) := by decide +kernel
theorem dX6_orderColumn_5 : decode cX6_orderColumn 5 = .ok (.invokevirtual 40, 3) := by decide +kernel
theorem dX6_orderColumn_8 : decode cX6_orderColumn 8 = .ok (.ireturn, 1) := by decide +kernel
set_option maxRecDepth 20000 in
theorem ggX6_isDownwards_X3_at : GoodIn wsX6_isDownwards wsX3_at := goodIn_r _ [6, 7, 14] (by decide +kernel) (by decide +kernel)
set_option maxRecDepth 20000 in
theorem gX6_isDownwards_X3_at : GoodIn wsX6_isDownwards (wsV RX6 40 RX3 yX3_at wsX3_at) := goodIn_app (goodIn_of _ (by decide +kernel)) ggX6_isDownwards_X3_at
theorem dX6_isDownwards_0 : decode cX6_isDownwards 0 = .ok (.aload_n 0, 1) := by decide +kernel
theorem dX6_isDownwards_1 : decode cX6_isDownwards 1 = .ok (.getfield 30, 3) := by decide +kernel
theorem dX6_isDownwards_4 : decode cX6_isDownwards 4 = .ok (.iload_n 1, 1) := by decide +kernel
theorem dX6_isDownwards_5 : decode cX6_isDownwards 5 = .ok (.invokevirtual 40, 3) := by decide +kernel
theorem dX6_isDownwards_8 : decode cX6_isDownwards 8 = .ok (.iconst 1, 1) := by decide +kernel
theorem dX6_isDownwards_9 : decode cX6_isDownwards 9 = .ok (.if_icmp .ne 7, 3) := by decide +kernel
theorem dX6_isDownwards_12 : decode cX6_isDownwards 12 = .ok (.iconst 1, 1) := by decide +kernel
theorem dX6_isDownwards_13 : decode cX6_isDownwards 13 = .ok (.goto 4, 3) := by decide +kernel
theorem dX6_isDownwards_16 : decode cX6_isDownwards 16 = .ok (.iconst 0, 1) := by decide +kernel
theorem dX6_isDownwards_17 : decode cX6_isDownwards 17 = .ok (.ireturn, 1) := by decide +kernel
set_option maxRecDepth 20000 in
theorem ggX6_setOrder_X3_set : GoodIn wsX6_setOrder wsX3_set := goodIn_r _ [7, 8, 15] (by decide +kernel) (by decide +kernel)
set_option maxRecDepth 20000 in
theorem gX6_setOrder_X3_set : GoodIn wsX6_setOrder (wsV RX6 44 RX3 yX3_set wsX3_set) := goodIn_app (goodIn_of _ (by decide +kernel)) ggX6_setOrder_X3_set
theorem dX6_setOrder_0 : decode cX6_setOrder 0 = .ok (.aload_n 0, 1) := by decide +kernel
theorem dX6_setOrder_1 : decode cX6_setOrder 1 = .ok (.getfield 26, 3) := by decide +kernel
theorem dX6_setOrder_4 : decode cX6_setOrder 4 = .ok (.iload_n 1, 1) := by decide +kernel
theorem dX6_setOrder_5 : decode cX6_setOrder 5 = .ok (.iload_n 2, 1) := by decide +kernel
theorem dX6_setOrder_6 : decode cX6_setOrder 6 = .ok (.invokevirtual 44, 3) := by decide +kernel
theorem dX6_setOrder_9 : decode cX6_setOrder 9 = .ok (.aload_n 0, 1) := by decide +kernel
theorem dX6_setOrder_10 : decode cX6_setOrder 10 = .ok (.getfield 30, 3) := by decide +kernel
theorem dX6_setOrder_13 : decode cX6_setOrder 13 = .ok (.iload_n 1, 1) := by decide +kernel
theorem dX6_setOrder_14 : decode cX6_setOrder 14 = .ok (.iload_n 3, 1) := by decide +kernel
theorem dX6_setOrder_15 : decode cX6_setOrder 15 = .ok (.invokevirtual 44, 3) := by decide +kernel
theorem dX6_setOrder_18 : decode cX6_setOrder 18 = .ok (.return_, 1) := by decide +kernel
theorem dX6_shownSet_0 : decode cX6_shownSet 0 = .ok (.aload_n 0, 1) := by decide +kernel
theorem dX6_shownSet_1 : decode cX6_shownSet 1 = .ok (.getfield 37, 3) := by decide +kernel
theorem dX6_shownSet_4 : decode cX6_shownSet 4 = .ok (.ireturn, 1) := by decide +kernel
theorem dX6_setShown_0 : decode cX6_setShown 0 = .ok (.aload_n 0, 1) := by decide +kernel
theorem dX6_setShown_1 : decode cX6_setShown 1 = .ok (.iload_n 1, 1) := by decide +kernel
theorem dX6_setShown_2 : decode cX6_setShown 2 = .ok (.putfield 37, 3) := by decide +kernel
theorem dX6_setShown_5 : decode cX6_setShown 5 = .ok (.return_, 1) := by decide +kernel
set_option maxRecDepth 20000 in
theorem ggX6_isAsked_X0_hasColumn : GoodIn wsX6_isAsked wsX0_hasColumn := goodIn_r _ [7, 8, 21, 22, 23, 24] (by decide +kernel) (by decide +kernel)
set_option maxRecDepth 20000 in
theorem gX6_isAsked_X0_hasColumn : GoodIn wsX6_isAsked (wsV RX6 47 RX0 yX0_hasColumn wsX0_hasColumn) := goodIn_app (goodIn_of _ (by decide +kernel)) ggX6_isAsked_X0_hasColumn
set_option maxRecDepth 20000 in
theorem ggX6_isAsked_X6_isOfBoth : GoodIn wsX6_isAsked wsX6_isOfBoth := goodIn_r _ [13, 14, 15, 16, 17, 18, 19, 20] (by decide +kernel) (by decide +kernel)
set_option maxRecDepth 20000 in
theorem gX6_isAsked_X6_isOfBoth : GoodIn wsX6_isAsked (wsV RX6 51 RX6 yX6_isOfBoth wsX6_isOfBoth) := goodIn_app (goodIn_of _ (by decide +kernel)) ggX6_isAsked_X6_isOfBoth
theorem dX6_isAsked_0 : decode cX6_isAsked 0 = .ok (.iload_n 1, 1) := by decide +kernel
theorem dX6_isAsked_1 : decode cX6_isAsked 1 = .ok (.iconst 4, 1) := by decide +kernel
theorem dX6_isAsked_2 : decode cX6_isAsked 2 = .ok (.if_icmp .ge 12, 3) := by decide +kernel
theorem dX6_isAsked_5 : decode cX6_isAsked 5 = .ok (.aload_n 0, 1) := by decide +kernel
theorem dX6_isAsked_6 : decode cX6_isAsked 6 = .ok (.getfield 12, 3) := by decide +kernel
theorem dX6_isAsked_9 : decode cX6_isAsked 9 = .ok (.iload_n 1, 1) := by decide +kernel
theorem dX6_isAsked_10 : decode cX6_isAsked 10 = .ok (.invokevirtual 47, 3) := by decide +kernel
theorem dX6_isAsked_13 : decode cX6_isAsked 13 = .ok (.ireturn, 1) := by decide +kernel
theorem dX6_isAsked_14 : decode cX6_isAsked 14 = .ok (.aload_n 0, 1) := by decide +kernel
theorem dX6_isAsked_15 : decode cX6_isAsked 15 = .ok (.invokevirtual 51, 3) := by decide +kernel
theorem dX6_isAsked_18 : decode cX6_isAsked 18 = .ok (.ifCond .eq 20, 3) := by decide +kernel
theorem dX6_isAsked_21 : decode cX6_isAsked 21 = .ok (.aload_n 0, 1) := by decide +kernel
theorem dX6_isAsked_22 : decode cX6_isAsked 22 = .ok (.getfield 18, 3) := by decide +kernel
theorem dX6_isAsked_25 : decode cX6_isAsked 25 = .ok (.iload_n 1, 1) := by decide +kernel
theorem dX6_isAsked_26 : decode cX6_isAsked 26 = .ok (.iconst 4, 1) := by decide +kernel
theorem dX6_isAsked_27 : decode cX6_isAsked 27 = .ok (.isub, 1) := by decide +kernel
theorem dX6_isAsked_28 : decode cX6_isAsked 28 = .ok (.invokevirtual 47, 3) := by decide +kernel
theorem dX6_isAsked_31 : decode cX6_isAsked 31 = .ok (.ifCond .eq 7, 3) := by decide +kernel
theorem dX6_isAsked_34 : decode cX6_isAsked 34 = .ok (.iconst 1, 1) := by decide +kernel
theorem dX6_isAsked_35 : decode cX6_isAsked 35 = .ok (.goto 4, 3) := by decide +kernel
theorem dX6_isAsked_38 : decode cX6_isAsked 38 = .ok (.iconst 0, 1) := by decide +kernel
theorem dX6_isAsked_39 : decode cX6_isAsked 39 = .ok (.ireturn, 1) := by decide +kernel
set_option maxRecDepth 20000 in
theorem ggX6_isShown_X6_isAsked : GoodIn wsX6_isShown wsX6_isAsked := goodIn_r _ [6, 7, 8, 9, 10, 11, 12, 13, 14, 15, 16, 17, 5, 18, 19, 20, 21, 22, 23, 24, 25, 26, 27, 28, 29] (by decide +kernel) (by decide +kernel)
set_option maxRecDepth 20000 in
theorem gX6_isShown_X6_isAsked : GoodIn wsX6_isShown (wsV RX6 55 RX6 yX6_isAsked wsX6_isAsked) := goodIn_app (goodIn_of _ (by decide +kernel)) ggX6_isShown_X6_isAsked
theorem dX6_isShown_0 : decode cX6_isShown 0 = .ok (.aload_n 0, 1) := by decide +kernel
theorem dX6_isShown_1 : decode cX6_isShown 1 = .ok (.iload_n 1, 1) := by decide +kernel
theorem dX6_isShown_2 : decode cX6_isShown 2 = .ok (.invokevirtual 55, 3) := by decide +kernel
theorem dX6_isShown_5 : decode cX6_isShown 5 = .ok (.ifCond .eq 19, 3) := by decide +kernel
theorem dX6_isShown_8 : decode cX6_isShown 8 = .ok (.aload_n 0, 1) := by decide +kernel
theorem dX6_isShown_9 : decode cX6_isShown 9 = .ok (.getfield 37, 3) := by decide +kernel
theorem dX6_isShown_12 : decode cX6_isShown 12 = .ok (.iload_n 1, 1) := by decide +kernel
theorem dX6_isShown_13 : decode cX6_isShown 13 = .ok (.ishr, 1) := by decide +kernel
theorem dX6_isShown_14 : decode cX6_isShown 14 = .ok (.iconst 1, 1) := by decide +kernel
theorem dX6_isShown_15 : decode cX6_isShown 15 = .ok (.iand, 1) := by decide +kernel
theorem dX6_isShown_16 : decode cX6_isShown 16 = .ok (.iconst 1, 1) := by decide +kernel
theorem dX6_isShown_17 : decode cX6_isShown 17 = .ok (.if_icmp .ne 7, 3) := by decide +kernel
theorem dX6_isShown_20 : decode cX6_isShown 20 = .ok (.iconst 1, 1) := by decide +kernel
theorem dX6_isShown_21 : decode cX6_isShown 21 = .ok (.goto 4, 3) := by decide +kernel
theorem dX6_isShown_24 : decode cX6_isShown 24 = .ok (.iconst 0, 1) := by decide +kernel
theorem dX6_isShown_25 : decode cX6_isShown 25 = .ok (.ireturn, 1) := by decide +kernel
set_option maxRecDepth 20000 in
theorem ggX6_entry_X0_entry : GoodIn wsX6_entry wsX0_entry := goodIn_r _ [7, 8, 9, 10, 11, 6, 12, 13, 14, 15, 16, 17, 18, 19, 20, 21, 22, 23, 24, 31, 32, 33, 34, 35] (by decide +kernel) (by decide +kernel)
set_option maxRecDepth 20000 in
theorem gX6_entry_X0_entry : GoodIn wsX6_entry (wsV RX6 58 RX0 yX0_entry wsX0_entry) := goodIn_app (goodIn_of _ (by decide +kernel)) ggX6_entry_X0_entry
theorem dX6_entry_0 : decode cX6_entry 0 = .ok (.iload_n 1, 1) := by decide +kernel
theorem dX6_entry_1 : decode cX6_entry 1 = .ok (.iconst 4, 1) := by decide +kernel
theorem dX6_entry_2 : decode cX6_entry 2 = .ok (.if_icmp .ge 16, 3) := by decide +kernel
theorem dX6_entry_5 : decode cX6_entry 5 = .ok (.aload_n 0, 1) := by decide +kernel
theorem dX6_entry_6 : decode cX6_entry 6 = .ok (.getfield 12, 3) := by decide +kernel
theorem dX6_entry_9 : decode cX6_entry 9 = .ok (.iload_n 2, 1) := by decide +kernel
theorem dX6_entry_10 : decode cX6_entry 10 = .ok (.bipush 12, 2) := by decide +kernel
theorem dX6_entry_12 : decode cX6_entry 12 = .ok (.idiv, 1) := by decide +kernel
theorem dX6_entry_13 : decode cX6_entry 13 = .ok (.iload_n 1, 1) := by decide +kernel
theorem dX6_entry_14 : decode cX6_entry 14 = .ok (.invokevirtual 58, 3) := by decide +kernel
theorem dX6_entry_17 : decode cX6_entry 17 = .ok (.ireturn, 1) := by decide +kernel
theorem dX6_entry_18 : decode cX6_entry 18 = .ok (.aload_n 0, 1) := by decide +kernel
theorem dX6_entry_19 : decode cX6_entry 19 = .ok (.getfield 18, 3) := by decide +kernel
theorem dX6_entry_22 : decode cX6_entry 22 = .ok (.iload_n 2, 1) := by decide +kernel
theorem dX6_entry_23 : decode cX6_entry 23 = .ok (.bipush 12, 2) := by decide +kernel
theorem dX6_entry_25 : decode cX6_entry 25 = .ok (.irem, 1) := by decide +kernel
theorem dX6_entry_26 : decode cX6_entry 26 = .ok (.iload_n 1, 1) := by decide +kernel
theorem dX6_entry_27 : decode cX6_entry 27 = .ok (.iconst 4, 1) := by decide +kernel
theorem dX6_entry_28 : decode cX6_entry 28 = .ok (.isub, 1) := by decide +kernel
theorem dX6_entry_29 : decode cX6_entry 29 = .ok (.invokevirtual 58, 3) := by decide +kernel
theorem dX6_entry_32 : decode cX6_entry 32 = .ok (.ireturn, 1) := by decide +kernel
set_option maxRecDepth 20000 in
theorem ggX6_exampleOf_X0_example : GoodIn wsX6_exampleOf wsX0_example := goodIn_r _ [7, 8, 15, 16, 17, 18] (by decide +kernel) (by decide +kernel)
set_option maxRecDepth 20000 in
theorem gX6_exampleOf_X0_example : GoodIn wsX6_exampleOf (wsV RX6 62 RX0 yX0_example wsX0_example) := goodIn_app (goodIn_of _ (by decide +kernel)) ggX6_exampleOf_X0_example
theorem dX6_exampleOf_0 : decode cX6_exampleOf 0 = .ok (.iload_n 1, 1) := by decide +kernel
theorem dX6_exampleOf_1 : decode cX6_exampleOf 1 = .ok (.iconst 4, 1) := by decide +kernel
theorem dX6_exampleOf_2 : decode cX6_exampleOf 2 = .ok (.if_icmp .ge 13, 3) := by decide +kernel
theorem dX6_exampleOf_5 : decode cX6_exampleOf 5 = .ok (.aload_n 0, 1) := by decide +kernel
theorem dX6_exampleOf_6 : decode cX6_exampleOf 6 = .ok (.getfield 12, 3) := by decide +kernel
theorem dX6_exampleOf_9 : decode cX6_exampleOf 9 = .ok (.invokevirtual 62, 3) := by decide +kernel
theorem dX6_exampleOf_12 : decode cX6_exampleOf 12 = .ok (.goto 10, 3) := by decide +kernel
theorem dX6_exampleOf_15 : decode cX6_exampleOf 15 = .ok (.aload_n 0, 1) := by decide +kernel
theorem dX6_exampleOf_16 : decode cX6_exampleOf 16 = .ok (.getfield 18, 3) := by decide +kernel
theorem dX6_exampleOf_19 : decode cX6_exampleOf 19 = .ok (.invokevirtual 62, 3) := by decide +kernel
theorem dX6_exampleOf_22 : decode cX6_exampleOf 22 = .ok (.areturn, 1) := by decide +kernel
set_option maxRecDepth 20000 in
theorem ggX6_copyFrom_X0_copyFrom : GoodIn wsX6_copyFrom wsX0_copyFrom := goodIn_r _ [11, 12, 13, 14, 15, 16, 17, 18, 19, 20, 21, 22, 23, 24, 25, 26, 27, 28, 29, 30, 31, 32, 33, 34, 42, 43, 44, 45, 46, 47, 48, 49] (by decide +kernel) (by decide +kernel)
set_option maxRecDepth 20000 in
theorem gX6_copyFrom_X0_copyFrom : GoodIn wsX6_copyFrom (wsV RX6 66 RX0 yX0_copyFrom wsX0_copyFrom) := goodIn_app (goodIn_of _ (by decide +kernel)) ggX6_copyFrom_X0_copyFrom
set_option maxRecDepth 20000 in
theorem ggX6_copyFrom_X3_copyFrom : GoodIn wsX6_copyFrom wsX3_copyFrom := goodIn_r _ [20, 21, 22, 23, 24, 19, 25, 46] (by decide +kernel) (by decide +kernel)
set_option maxRecDepth 20000 in
theorem gX6_copyFrom_X3_copyFrom : GoodIn wsX6_copyFrom (wsV RX6 70 RX3 yX3_copyFrom wsX3_copyFrom) := goodIn_app (goodIn_of _ (by decide +kernel)) ggX6_copyFrom_X3_copyFrom
theorem dX6_copyFrom_0 : decode cX6_copyFrom 0 = .ok (.aload_n 0, 1) := by decide +kernel
theorem dX6_copyFrom_1 : decode cX6_copyFrom 1 = .ok (.getfield 12, 3) := by decide +kernel
theorem dX6_copyFrom_4 : decode cX6_copyFrom 4 = .ok (.aload_n 1, 1) := by decide +kernel
theorem dX6_copyFrom_5 : decode cX6_copyFrom 5 = .ok (.getfield 12, 3) := by decide +kernel
theorem dX6_copyFrom_8 : decode cX6_copyFrom 8 = .ok (.invokevirtual 66, 3) := by decide +kernel
theorem dX6_copyFrom_11 : decode cX6_copyFrom 11 = .ok (.aload_n 0, 1) := by decide +kernel
theorem dX6_copyFrom_12 : decode cX6_copyFrom 12 = .ok (.getfield 18, 3) := by decide +kernel
theorem dX6_copyFrom_15 : decode cX6_copyFrom 15 = .ok (.aload_n 1, 1) := by decide +kernel
theorem dX6_copyFrom_16 : decode cX6_copyFrom 16 = .ok (.getfield 18, 3) := by decide +kernel
theorem dX6_copyFrom_19 : decode cX6_copyFrom 19 = .ok (.invokevirtual 66, 3) := by decide +kernel
theorem dX6_copyFrom_22 : decode cX6_copyFrom 22 = .ok (.aload_n 0, 1) := by decide +kernel
theorem dX6_copyFrom_23 : decode cX6_copyFrom 23 = .ok (.getfield 26, 3) := by decide +kernel
theorem dX6_copyFrom_26 : decode cX6_copyFrom 26 = .ok (.aload_n 1, 1) := by decide +kernel
theorem dX6_copyFrom_27 : decode cX6_copyFrom 27 = .ok (.getfield 26, 3) := by decide +kernel
theorem dX6_copyFrom_30 : decode cX6_copyFrom 30 = .ok (.invokevirtual 70, 3) := by decide +kernel
theorem dX6_copyFrom_33 : decode cX6_copyFrom 33 = .ok (.aload_n 0, 1) := by decide +kernel
theorem dX6_copyFrom_34 : decode cX6_copyFrom 34 = .ok (.getfield 30, 3) := by decide +kernel
theorem dX6_copyFrom_37 : decode cX6_copyFrom 37 = .ok (.aload_n 1, 1) := by decide +kernel
theorem dX6_copyFrom_38 : decode cX6_copyFrom 38 = .ok (.getfield 30, 3) := by decide +kernel
theorem dX6_copyFrom_41 : decode cX6_copyFrom 41 = .ok (.invokevirtual 70, 3) := by decide +kernel
theorem dX6_copyFrom_44 : decode cX6_copyFrom 44 = .ok (.aload_n 0, 1) := by decide +kernel
theorem dX6_copyFrom_45 : decode cX6_copyFrom 45 = .ok (.aload_n 1, 1) := by decide +kernel
theorem dX6_copyFrom_46 : decode cX6_copyFrom 46 = .ok (.getfield 33, 3) := by decide +kernel
theorem dX6_copyFrom_49 : decode cX6_copyFrom 49 = .ok (.putfield 33, 3) := by decide +kernel
theorem dX6_copyFrom_52 : decode cX6_copyFrom 52 = .ok (.aload_n 0, 1) := by decide +kernel
theorem dX6_copyFrom_53 : decode cX6_copyFrom 53 = .ok (.aload_n 1, 1) := by decide +kernel
theorem dX6_copyFrom_54 : decode cX6_copyFrom 54 = .ok (.getfield 37, 3) := by decide +kernel
theorem dX6_copyFrom_57 : decode cX6_copyFrom 57 = .ok (.putfield 37, 3) := by decide +kernel
theorem dX6_copyFrom_60 : decode cX6_copyFrom 60 = .ok (.return_, 1) := by decide +kernel
set_option maxRecDepth 20000 in
theorem ggX7_init_X3_init : GoodIn wsX7_init wsX3_init := goodIn_r _ [11, 12, 2, 3, 13, 14, 15, 16, 17, 18, 19, 20, 21, 6, 22, 23] (by decide +kernel) (by decide +kernel)
set_option maxRecDepth 20000 in
theorem gX7_init_X3_init : GoodIn wsX7_init (wsX3_init) := ggX7_init_X3_init
theorem dX7_init_0 : decode cX7_init 0 = .ok (.aload_n 0, 1) := by decide +kernel
theorem dX7_init_1 : decode cX7_init 1 = .ok (.invokespecial 3, 3) := by decide +kernel
theorem dX7_init_4 : decode cX7_init 4 = .ok (.aload_n 0, 1) := by decide +kernel
theorem dX7_init_5 : decode cX7_init 5 = .ok (.new 9, 3) := by decide +kernel
theorem dX7_init_8 : decode cX7_init 8 = .ok (.dup, 1) := by decide +kernel
theorem dX7_init_9 : decode cX7_init 9 = .ok (.bipush 60, 2) := by decide +kernel
theorem dX7_init_11 : decode cX7_init 11 = .ok (.iconst 0, 1) := by decide +kernel
theorem dX7_init_12 : decode cX7_init 12 = .ok (.invokespecial 11, 3) := by decide +kernel
theorem dX7_init_15 : decode cX7_init 15 = .ok (.putfield 14, 3) := by decide +kernel
theorem dX7_init_18 : decode cX7_init 18 = .ok (.aload_n 0, 1) := by decide +kernel
theorem dX7_init_19 : decode cX7_init 19 = .ok (.iconst 0, 1) := by decide +kernel
theorem dX7_init_20 : decode cX7_init 20 = .ok (.putfield 20, 3) := by decide +kernel
theorem dX7_init_23 : decode cX7_init 23 = .ok (.return_, 1) := by decide +kernel
theorem dX7_length_0 : decode cX7_length 0 = .ok (.aload_n 0, 1) := by decide +kernel
theorem dX7_length_1 : decode cX7_length 1 = .ok (.getfield 20, 3) := by decide +kernel
theorem dX7_length_4 : decode cX7_length 4 = .ok (.ireturn, 1) := by decide +kernel
set_option maxRecDepth 20000 in
theorem ggX7_characterAt_X3_at : GoodIn wsX7_characterAt wsX3_at := goodIn_r _ [7, 8, 11] (by decide +kernel) (by decide +kernel)
set_option maxRecDepth 20000 in
theorem gX7_characterAt_X3_at : GoodIn wsX7_characterAt (wsV RX7 24 RX3 yX3_at wsX3_at) := goodIn_app (goodIn_of _ (by decide +kernel)) ggX7_characterAt_X3_at
theorem dX7_characterAt_0 : decode cX7_characterAt 0 = .ok (.iload_n 1, 1) := by decide +kernel
theorem dX7_characterAt_1 : decode cX7_characterAt 1 = .ok (.aload_n 0, 1) := by decide +kernel
theorem dX7_characterAt_2 : decode cX7_characterAt 2 = .ok (.getfield 20, 3) := by decide +kernel
theorem dX7_characterAt_5 : decode cX7_characterAt 5 = .ok (.if_icmp .ge 14, 3) := by decide +kernel
theorem dX7_characterAt_8 : decode cX7_characterAt 8 = .ok (.aload_n 0, 1) := by decide +kernel
theorem dX7_characterAt_9 : decode cX7_characterAt 9 = .ok (.getfield 14, 3) := by decide +kernel
theorem dX7_characterAt_12 : decode cX7_characterAt 12 = .ok (.iload_n 1, 1) := by decide +kernel
theorem dX7_characterAt_13 : decode cX7_characterAt 13 = .ok (.invokevirtual 24, 3) := by decide +kernel
theorem dX7_characterAt_16 : decode cX7_characterAt 16 = .ok (.goto 4, 3) := by decide +kernel
theorem dX7_characterAt_19 : decode cX7_characterAt 19 = .ok (.iconst (-1), 1) := by decide +kernel
theorem dX7_characterAt_20 : decode cX7_characterAt 20 = .ok (.ireturn, 1) := by decide +kernel
set_option maxRecDepth 20000 in
theorem ggX7_append_X3_set : GoodIn wsX7_append wsX3_set := goodIn_r _ [7, 8, 11] (by decide +kernel) (by decide +kernel)
set_option maxRecDepth 20000 in
theorem gX7_append_X3_set : GoodIn wsX7_append (wsV RX7 28 RX3 yX3_set wsX3_set) := goodIn_app (goodIn_of _ (by decide +kernel)) ggX7_append_X3_set
theorem dX7_append_0 : decode cX7_append 0 = .ok (.aload_n 0, 1) := by decide +kernel
theorem dX7_append_1 : decode cX7_append 1 = .ok (.getfield 14, 3) := by decide +kernel
theorem dX7_append_4 : decode cX7_append 4 = .ok (.aload_n 0, 1) := by decide +kernel
theorem dX7_append_5 : decode cX7_append 5 = .ok (.getfield 20, 3) := by decide +kernel
theorem dX7_append_8 : decode cX7_append 8 = .ok (.iload_n 1, 1) := by decide +kernel
theorem dX7_append_9 : decode cX7_append 9 = .ok (.invokevirtual 28, 3) := by decide +kernel
theorem dX7_append_12 : decode cX7_append 12 = .ok (.aload_n 0, 1) := by decide +kernel
theorem dX7_append_13 : decode cX7_append 13 = .ok (.dup, 1) := by decide +kernel
theorem dX7_append_14 : decode cX7_append 14 = .ok (.getfield 20, 3) := by decide +kernel
theorem dX7_append_17 : decode cX7_append 17 = .ok (.iconst 1, 1) := by decide +kernel
theorem dX7_append_18 : decode cX7_append 18 = .ok (.iadd, 1) := by decide +kernel
theorem dX7_append_19 : decode cX7_append 19 = .ok (.putfield 20, 3) := by decide +kernel
theorem dX7_append_22 : decode cX7_append 22 = .ok (.aload_n 0, 1) := by decide +kernel
theorem dX7_append_23 : decode cX7_append 23 = .ok (.getfield 20, 3) := by decide +kernel
theorem dX7_append_26 : decode cX7_append 26 = .ok (.ireturn, 1) := by decide +kernel
theorem dX7_empty_0 : decode cX7_empty 0 = .ok (.aload_n 0, 1) := by decide +kernel
theorem dX7_empty_1 : decode cX7_empty 1 = .ok (.getfield 20, 3) := by decide +kernel
theorem dX7_empty_4 : decode cX7_empty 4 = .ok (.istore_n 1, 1) := by decide +kernel
theorem dX7_empty_5 : decode cX7_empty 5 = .ok (.aload_n 0, 1) := by decide +kernel
theorem dX7_empty_6 : decode cX7_empty 6 = .ok (.iconst 0, 1) := by decide +kernel
theorem dX7_empty_7 : decode cX7_empty 7 = .ok (.putfield 20, 3) := by decide +kernel
theorem dX7_empty_10 : decode cX7_empty 10 = .ok (.iload_n 1, 1) := by decide +kernel
theorem dX7_empty_11 : decode cX7_empty 11 = .ok (.ireturn, 1) := by decide +kernel
set_option maxRecDepth 20000 in
theorem ggX8_init_X6_init : GoodIn wsX8_init wsX6_init := goodIn_r _ [25, 26, 2, 3, 27, 28, 29, 30, 31, 32, 33, 34, 35, 36, 37, 38, 39, 40, 41, 42, 43, 44, 45, 46, 47, 48, 49, 50, 51, 52, 53, 54, 55, 56, 57, 58, 59, 60, 61, 62, 63, 64, 65, 66, 67, 68, 69, 70, 71, 72, 142, 143, 144, 145, 112, 113, 114, 115, 116, 117, 146, 147, 148, 149] (by decide +kernel) (by decide +kernel)
set_option maxRecDepth 20000 in
theorem gX8_init_X6_init_n11 : GoodIn wsX8_init (wsX6_init) := ggX8_init_X6_init
set_option maxRecDepth 20000 in
theorem ggX8_init_X2_init : GoodIn wsX8_init wsX2_init := goodIn_r _ [74, 75, 2, 3, 76, 5, 6, 77, 78, 79, 80, 81, 24, 25, 26, 27, 28, 29, 30, 31, 32, 33, 34, 35, 36, 37, 38, 39, 40, 41, 42, 43, 44, 45, 46, 47, 48, 49, 50, 51, 52, 53, 54, 55, 56, 57, 58, 59, 60, 61, 62, 63, 64, 65, 66, 67, 68, 69, 70, 71, 72, 112, 113, 114, 115, 116, 117, 123, 124, 125, 126, 127, 142, 143, 144, 145, 146, 147, 148, 149] (by decide +kernel) (by decide +kernel)
set_option maxRecDepth 20000 in
theorem gX8_init_X2_init_n18 : GoodIn wsX8_init (wsX2_init) := ggX8_init_X2_init
set_option maxRecDepth 20000 in
theorem ggX8_init_X5_init : GoodIn wsX8_init wsX5_init := goodIn_r _ [84, 85, 2, 3, 86, 33, 34, 87, 88, 89, 90, 91, 92, 93, 51, 52, 53, 54, 55, 56, 57, 58, 59, 60, 61, 62, 63, 146, 128, 129, 130, 131, 132, 133] (by decide +kernel) (by decide +kernel)
set_option maxRecDepth 20000 in
theorem gX8_init_X5_init : GoodIn wsX8_init (wsX5_init) := ggX8_init_X5_init
set_option maxRecDepth 20000 in
theorem ggX8_init_X7_init : GoodIn wsX8_init wsX7_init := goodIn_r _ [95, 96, 2, 3, 97, 33, 34, 98, 99, 100, 51, 52, 53, 54, 55, 56, 57, 58, 59, 60, 61, 62, 63, 146, 134, 135] (by decide +kernel) (by decide +kernel)
set_option maxRecDepth 20000 in
theorem gX8_init_X7_init_n34 : GoodIn wsX8_init (wsX7_init) := ggX8_init_X7_init
set_option maxRecDepth 20000 in
theorem ggX8_init_X4_init : GoodIn wsX8_init wsX4_init := goodIn_r _ [103, 104, 2, 3, 105, 45, 46, 106, 107, 108, 109, 110, 111, 64, 65, 66, 67, 33, 34, 68, 69, 70, 71, 51, 52, 53, 54, 55, 56, 57, 58, 59, 60, 61, 62, 63, 147, 148, 149, 136, 137, 138, 139, 140, 141, 146] (by decide +kernel) (by decide +kernel)
set_option maxRecDepth 20000 in
theorem gX8_init_X4_init : GoodIn wsX8_init (wsX4_init) := ggX8_init_X4_init
theorem dX8_init_0 : decode cX8_init 0 = .ok (.aload_n 0, 1) := by decide +kernel
theorem dX8_init_1 : decode cX8_init 1 = .ok (.invokespecial 3, 3) := by decide +kernel
theorem dX8_init_4 : decode cX8_init 4 = .ok (.aload_n 0, 1) := by decide +kernel
theorem dX8_init_5 : decode cX8_init 5 = .ok (.new 9, 3) := by decide +kernel
theorem dX8_init_8 : decode cX8_init 8 = .ok (.dup, 1) := by decide +kernel
theorem dX8_init_9 : decode cX8_init 9 = .ok (.invokespecial 11, 3) := by decide +kernel
theorem dX8_init_12 : decode cX8_init 12 = .ok (.putfield 12, 3) := by decide +kernel
theorem dX8_init_15 : decode cX8_init 15 = .ok (.aload_n 0, 1) := by decide +kernel
theorem dX8_init_16 : decode cX8_init 16 = .ok (.new 16, 3) := by decide +kernel
theorem dX8_init_19 : decode cX8_init 19 = .ok (.dup, 1) := by decide +kernel
theorem dX8_init_20 : decode cX8_init 20 = .ok (.invokespecial 18, 3) := by decide +kernel
theorem dX8_init_23 : decode cX8_init 23 = .ok (.putfield 19, 3) := by decide +kernel
theorem dX8_init_26 : decode cX8_init 26 = .ok (.aload_n 0, 1) := by decide +kernel
theorem dX8_init_27 : decode cX8_init 27 = .ok (.new 23, 3) := by decide +kernel
theorem dX8_init_30 : decode cX8_init 30 = .ok (.dup, 1) := by decide +kernel
theorem dX8_init_31 : decode cX8_init 31 = .ok (.aload_n 0, 1) := by decide +kernel
theorem dX8_init_32 : decode cX8_init 32 = .ok (.getfield 12, 3) := by decide +kernel
theorem dX8_init_35 : decode cX8_init 35 = .ok (.invokespecial 25, 3) := by decide +kernel
theorem dX8_init_38 : decode cX8_init 38 = .ok (.putfield 28, 3) := by decide +kernel
theorem dX8_init_41 : decode cX8_init 41 = .ok (.aload_n 0, 1) := by decide +kernel
theorem dX8_init_42 : decode cX8_init 42 = .ok (.new 32, 3) := by decide +kernel
theorem dX8_init_45 : decode cX8_init 45 = .ok (.dup, 1) := by decide +kernel
theorem dX8_init_46 : decode cX8_init 46 = .ok (.invokespecial 34, 3) := by decide +kernel
theorem dX8_init_49 : decode cX8_init 49 = .ok (.putfield 35, 3) := by decide +kernel
theorem dX8_init_52 : decode cX8_init 52 = .ok (.aload_n 0, 1) := by decide +kernel
theorem dX8_init_53 : decode cX8_init 53 = .ok (.new 39, 3) := by decide +kernel
theorem dX8_init_56 : decode cX8_init 56 = .ok (.dup, 1) := by decide +kernel
theorem dX8_init_57 : decode cX8_init 57 = .ok (.aload_n 0, 1) := by decide +kernel
theorem dX8_init_58 : decode cX8_init 58 = .ok (.getfield 35, 3) := by decide +kernel
theorem dX8_init_61 : decode cX8_init 61 = .ok (.invokespecial 41, 3) := by decide +kernel
theorem dX8_init_64 : decode cX8_init 64 = .ok (.putfield 44, 3) := by decide +kernel
theorem dX8_init_67 : decode cX8_init 67 = .ok (.return_, 1) := by decide +kernel
set_option maxRecDepth 20000 in
theorem ggX8_columns_X8_isBit : GoodIn wsX8_columns wsX8_isBit := goodIn_r _ [6] (by decide +kernel) (by decide +kernel)
set_option maxRecDepth 20000 in
theorem gX8_columns_X8_isBit : GoodIn wsX8_columns (va_wsS RX8 48 yX8_isBit wsX8_isBit) := goodIn_app (goodIn_of _ (by decide +kernel)) ggX8_columns_X8_isBit
set_option maxRecDepth 20000 in
theorem ggX8_columns_X2_keep : GoodIn wsX8_columns wsX2_keep := goodIn_r _ [11, 12, 13, 14, 15, 16, 17, 18, 19, 20, 21, 22, 23, 24, 25, 26, 27, 28, 29, 30, 31, 32, 33, 34, 35, 36, 37, 38, 39, 40, 41, 42, 43, 44, 45, 46, 47, 48, 49, 50, 51, 52, 53, 54, 55, 56, 57, 58, 59, 60, 82, 83, 84, 85, 86, 87, 88, 89, 90, 91, 92, 93, 94, 95, 96, 97, 98, 99, 100] (by decide +kernel) (by decide +kernel)
set_option maxRecDepth 20000 in
theorem gX8_columns_X2_keep : GoodIn wsX8_columns (wsV RX8 52 RX2 yX2_keep wsX2_keep) := goodIn_app (goodIn_of _ (by decide +kernel)) ggX8_columns_X2_keep
set_option maxRecDepth 20000 in
theorem ggX8_columns_X6_drawer : GoodIn wsX8_columns wsX6_drawer := goodIn_r _ [64, 26, 27, 87, 88, 89, 90, 91, 92] (by decide +kernel) (by decide +kernel)
set_option maxRecDepth 20000 in
theorem gX8_columns_X6_drawer : GoodIn wsX8_columns (wsV RX8 55 RX6 yX6_drawer wsX6_drawer) := goodIn_app (goodIn_of _ (by decide +kernel)) ggX8_columns_X6_drawer
set_option maxRecDepth 20000 in
theorem ggX8_columns_X0_remake : GoodIn wsX8_columns wsX0_remake := goodIn_r _ [68, 40, 39, 38, 69, 70, 71, 54, 72, 56, 57, 58, 73, 74, 75, 44, 76, 46, 93, 94, 95, 96, 98, 99, 100, 97] (by decide +kernel) (by decide +kernel)
set_option maxRecDepth 20000 in
theorem gX8_columns_X0_remake : GoodIn wsX8_columns (wsV RX8 59 RX0 yX0_remake wsX0_remake) := goodIn_app (goodIn_of _ (by decide +kernel)) ggX8_columns_X0_remake
theorem dX8_columns_0 : decode cX8_columns 0 = .ok (.iload_n 1, 1) := by decide +kernel
theorem dX8_columns_1 : decode cX8_columns 1 = .ok (.invokestatic 48, 3) := by decide +kernel
theorem dX8_columns_4 : decode cX8_columns 4 = .ok (.ifCond .eq 13, 3) := by decide +kernel
theorem dX8_columns_7 : decode cX8_columns 7 = .ok (.iload_n 2, 1) := by decide +kernel
theorem dX8_columns_8 : decode cX8_columns 8 = .ok (.iconst 1, 1) := by decide +kernel
theorem dX8_columns_9 : decode cX8_columns 9 = .ok (.if_icmp .lt 8, 3) := by decide +kernel
theorem dX8_columns_12 : decode cX8_columns 12 = .ok (.iload_n 2, 1) := by decide +kernel
theorem dX8_columns_13 : decode cX8_columns 13 = .ok (.iconst 4, 1) := by decide +kernel
theorem dX8_columns_14 : decode cX8_columns 14 = .ok (.if_icmp .le 6, 3) := by decide +kernel
theorem dX8_columns_17 : decode cX8_columns 17 = .ok (.bipush (-11), 2) := by decide +kernel
theorem dX8_columns_19 : decode cX8_columns 19 = .ok (.ireturn, 1) := by decide +kernel
theorem dX8_columns_20 : decode cX8_columns 20 = .ok (.aload_n 0, 1) := by decide +kernel
theorem dX8_columns_21 : decode cX8_columns 21 = .ok (.getfield 19, 3) := by decide +kernel
theorem dX8_columns_24 : decode cX8_columns 24 = .ok (.aload_n 0, 1) := by decide +kernel
theorem dX8_columns_25 : decode cX8_columns 25 = .ok (.getfield 12, 3) := by decide +kernel
theorem dX8_columns_28 : decode cX8_columns 28 = .ok (.invokevirtual 52, 3) := by decide +kernel
theorem dX8_columns_31 : decode cX8_columns 31 = .ok (.aload_n 0, 1) := by decide +kernel
theorem dX8_columns_32 : decode cX8_columns 32 = .ok (.getfield 12, 3) := by decide +kernel
theorem dX8_columns_35 : decode cX8_columns 35 = .ok (.iload_n 1, 1) := by decide +kernel
theorem dX8_columns_36 : decode cX8_columns 36 = .ok (.invokevirtual 55, 3) := by decide +kernel
theorem dX8_columns_39 : decode cX8_columns 39 = .ok (.iload_n 2, 1) := by decide +kernel
theorem dX8_columns_40 : decode cX8_columns 40 = .ok (.invokevirtual 59, 3) := by decide +kernel
theorem dX8_columns_43 : decode cX8_columns 43 = .ok (.ireturn, 1) := by decide +kernel
set_option maxRecDepth 20000 in
theorem ggX8_card_X8_isBit : GoodIn wsX8_card wsX8_isBit := goodIn_r _ [6] (by decide +kernel) (by decide +kernel)
set_option maxRecDepth 20000 in
theorem gX8_card_X8_isBit : GoodIn wsX8_card (va_wsS RX8 48 yX8_isBit wsX8_isBit) := goodIn_app (goodIn_of _ (by decide +kernel)) ggX8_card_X8_isBit
set_option maxRecDepth 20000 in
theorem ggX8_card_X8_isEntry : GoodIn wsX8_card wsX8_isEntry := goodIn_r _ [9] (by decide +kernel) (by decide +kernel)
set_option maxRecDepth 20000 in
theorem gX8_card_X8_isEntry : GoodIn wsX8_card (va_wsS RX8 65 yX8_isEntry wsX8_isEntry) := goodIn_app (goodIn_of _ (by decide +kernel)) ggX8_card_X8_isEntry
set_option maxRecDepth 20000 in
theorem ggX8_card_X6_drawer : GoodIn wsX8_card wsX6_drawer := goodIn_r _ [14, 15, 16, 85, 86, 87, 88, 89, 90] (by decide +kernel) (by decide +kernel)
set_option maxRecDepth 20000 in
theorem gX8_card_X6_drawer : GoodIn wsX8_card (wsV RX8 55 RX6 yX6_drawer wsX6_drawer) := goodIn_app (goodIn_of _ (by decide +kernel)) ggX8_card_X6_drawer
set_option maxRecDepth 20000 in
theorem ggX8_card_X0_size : GoodIn wsX8_card wsX0_size := goodIn_r _ [21, 22, 91, 92, 93, 94] (by decide +kernel) (by decide +kernel)
set_option maxRecDepth 20000 in
theorem gX8_card_X0_size : GoodIn wsX8_card (wsV RX8 68 RX0 yX0_size wsX0_size) := goodIn_app (goodIn_of _ (by decide +kernel)) ggX8_card_X0_size
set_option maxRecDepth 20000 in
theorem ggX8_card_X2_keep : GoodIn wsX8_card wsX2_keep := goodIn_r _ [27, 28, 29, 30, 31, 32, 33, 34, 35, 36, 37, 38, 39, 13, 40, 15, 16, 41, 42, 43, 44, 45, 46, 47, 20, 48, 49, 50, 51, 22, 52, 53, 54, 55, 56, 57, 58, 59, 60, 61, 62, 63, 64, 65, 66, 67, 68, 69, 70, 71, 95, 96, 97, 98, 99, 85, 86, 87, 88, 89, 90, 91, 92, 93, 94, 100, 101, 102, 103] (by decide +kernel) (by decide +kernel)
set_option maxRecDepth 20000 in
theorem gX8_card_X2_keep : GoodIn wsX8_card (wsV RX8 52 RX2 yX2_keep wsX2_keep) := goodIn_app (goodIn_of _ (by decide +kernel)) ggX8_card_X2_keep
set_option maxRecDepth 20000 in
theorem ggX8_card_X0_add : GoodIn wsX8_card wsX0_add := goodIn_r _ [75, 22, 49, 76, 77, 78, 55, 79, 57, 91, 92, 93, 94, 100] (by decide +kernel) (by decide +kernel)
set_option maxRecDepth 20000 in
theorem gX8_card_X0_add : GoodIn wsX8_card (wsV RX8 72 RX0 yX0_add wsX0_add) := goodIn_app (goodIn_of _ (by decide +kernel)) ggX8_card_X0_add
theorem dX8_card_0 : decode cX8_card 0 = .ok (.iload_n 1, 1) := by decide +kernel
theorem dX8_card_1 : decode cX8_card 1 = .ok (.invokestatic 48, 3) := by decide +kernel
theorem dX8_card_4 : decode cX8_card 4 = .ok (.ifCond .eq 33, 3) := by decide +kernel
theorem dX8_card_7 : decode cX8_card 7 = .ok (.iload_n 2, 1) := by decide +kernel
theorem dX8_card_8 : decode cX8_card 8 = .ok (.invokestatic 65, 3) := by decide +kernel
theorem dX8_card_11 : decode cX8_card 11 = .ok (.ifCond .eq 26, 3) := by decide +kernel
theorem dX8_card_14 : decode cX8_card 14 = .ok (.iload_n 3, 1) := by decide +kernel
theorem dX8_card_15 : decode cX8_card 15 = .ok (.invokestatic 65, 3) := by decide +kernel
theorem dX8_card_18 : decode cX8_card 18 = .ok (.ifCond .eq 19, 3) := by decide +kernel
theorem dX8_card_21 : decode cX8_card 21 = .ok (.iload 4, 2) := by decide +kernel
theorem dX8_card_23 : decode cX8_card 23 = .ok (.invokestatic 65, 3) := by decide +kernel
theorem dX8_card_26 : decode cX8_card 26 = .ok (.ifCond .eq 11, 3) := by decide +kernel
theorem dX8_card_29 : decode cX8_card 29 = .ok (.iload 5, 2) := by decide +kernel
theorem dX8_card_31 : decode cX8_card 31 = .ok (.invokestatic 65, 3) := by decide +kernel
theorem dX8_card_34 : decode cX8_card 34 = .ok (.ifCond .ne 6, 3) := by decide +kernel
theorem dX8_card_37 : decode cX8_card 37 = .ok (.bipush (-11), 2) := by decide +kernel
theorem dX8_card_39 : decode cX8_card 39 = .ok (.ireturn, 1) := by decide +kernel
theorem dX8_card_40 : decode cX8_card 40 = .ok (.aload_n 0, 1) := by decide +kernel
theorem dX8_card_41 : decode cX8_card 41 = .ok (.getfield 12, 3) := by decide +kernel
theorem dX8_card_44 : decode cX8_card 44 = .ok (.iload_n 1, 1) := by decide +kernel
theorem dX8_card_45 : decode cX8_card 45 = .ok (.invokevirtual 55, 3) := by decide +kernel
theorem dX8_card_48 : decode cX8_card 48 = .ok (.astore 6, 2) := by decide +kernel
theorem dX8_card_50 : decode cX8_card 50 = .ok (.aload 6, 2) := by decide +kernel
theorem dX8_card_52 : decode cX8_card 52 = .ok (.invokevirtual 68, 3) := by decide +kernel
theorem dX8_card_55 : decode cX8_card 55 = .ok (.bipush 12, 2) := by decide +kernel
theorem dX8_card_57 : decode cX8_card 57 = .ok (.if_icmp .lt 6, 3) := by decide +kernel
theorem dX8_card_60 : decode cX8_card 60 = .ok (.bipush (-13), 2) := by decide +kernel
theorem dX8_card_62 : decode cX8_card 62 = .ok (.ireturn, 1) := by decide +kernel
theorem dX8_card_63 : decode cX8_card 63 = .ok (.aload_n 0, 1) := by decide +kernel
theorem dX8_card_64 : decode cX8_card 64 = .ok (.getfield 19, 3) := by decide +kernel
theorem dX8_card_67 : decode cX8_card 67 = .ok (.aload_n 0, 1) := by decide +kernel
theorem dX8_card_68 : decode cX8_card 68 = .ok (.getfield 12, 3) := by decide +kernel
theorem dX8_card_71 : decode cX8_card 71 = .ok (.invokevirtual 52, 3) := by decide +kernel
theorem dX8_card_74 : decode cX8_card 74 = .ok (.aload 6, 2) := by decide +kernel
theorem dX8_card_76 : decode cX8_card 76 = .ok (.iload_n 2, 1) := by decide +kernel
theorem dX8_card_77 : decode cX8_card 77 = .ok (.iload_n 3, 1) := by decide +kernel
theorem dX8_card_78 : decode cX8_card 78 = .ok (.iload 4, 2) := by decide +kernel
theorem dX8_card_80 : decode cX8_card 80 = .ok (.iload 5, 2) := by decide +kernel
theorem dX8_card_82 : decode cX8_card 82 = .ok (.invokevirtual 72, 3) := by decide +kernel
theorem dX8_card_85 : decode cX8_card 85 = .ok (.ireturn, 1) := by decide +kernel
set_option maxRecDepth 20000 in
theorem ggX8_put_X8_isPlace : GoodIn wsX8_put wsX8_isPlace := goodIn_r _ [7, 2, 8, 9, 10, 6, 11, 12, 13, 14, 15, 16, 17, 18, 19, 20, 21, 22, 23, 24, 25, 26, 27, 28, 29, 30, 31, 32, 99, 100, 101, 102, 103, 104, 105, 106, 107, 108, 109, 110, 111, 112, 113] (by decide +kernel) (by decide +kernel)
set_option maxRecDepth 20000 in
theorem gX8_put_X8_isPlace : GoodIn wsX8_put (wsV RX8 76 RX8 yX8_isPlace wsX8_isPlace) := goodIn_app (goodIn_of _ (by decide +kernel)) ggX8_put_X8_isPlace
set_option maxRecDepth 20000 in
theorem ggX8_put_X8_isEntry : GoodIn wsX8_put wsX8_isEntry := goodIn_r _ [35] (by decide +kernel) (by decide +kernel)
set_option maxRecDepth 20000 in
theorem gX8_put_X8_isEntry : GoodIn wsX8_put (va_wsS RX8 65 yX8_isEntry wsX8_isEntry) := goodIn_app (goodIn_of _ (by decide +kernel)) ggX8_put_X8_isEntry
set_option maxRecDepth 20000 in
theorem ggX8_put_X2_keep : GoodIn wsX8_put wsX2_keep := goodIn_r _ [40, 41, 42, 43, 44, 45, 46, 47, 48, 49, 50, 51, 52, 18, 53, 20, 21, 54, 55, 56, 57, 58, 59, 60, 25, 61, 62, 63, 27, 32, 64, 65, 66, 67, 68, 69, 70, 71, 72, 73, 74, 75, 76, 77, 78, 79, 80, 81, 82, 83, 114, 115, 116, 117, 118, 104, 105, 106, 107, 108, 109, 110, 111, 112, 113, 119, 120, 121, 122] (by decide +kernel) (by decide +kernel)
set_option maxRecDepth 20000 in
theorem gX8_put_X2_keep : GoodIn wsX8_put (wsV RX8 52 RX2 yX2_keep wsX2_keep) := goodIn_app (goodIn_of _ (by decide +kernel)) ggX8_put_X2_keep
set_option maxRecDepth 20000 in
theorem ggX8_put_X6_drawer : GoodIn wsX8_put wsX6_drawer := goodIn_r _ [19, 20, 21, 104, 105, 106, 107, 108, 109] (by decide +kernel) (by decide +kernel)
set_option maxRecDepth 20000 in
theorem gX8_put_X6_drawer : GoodIn wsX8_put (wsV RX8 55 RX6 yX6_drawer wsX6_drawer) := goodIn_app (goodIn_of _ (by decide +kernel)) ggX8_put_X6_drawer
set_option maxRecDepth 20000 in
theorem ggX8_put_X0_replace : GoodIn wsX8_put wsX0_replace := goodIn_r _ [87, 62, 88, 89, 90, 25, 91, 92, 29, 30, 31, 32, 93, 23, 24, 26, 27, 94, 71, 72, 67, 73, 69, 95, 96, 97, 98, 110, 111, 112, 113, 119] (by decide +kernel) (by decide +kernel)
set_option maxRecDepth 20000 in
theorem gX8_put_X0_replace : GoodIn wsX8_put (wsV RX8 80 RX0 yX0_replace wsX0_replace) := goodIn_app (goodIn_of _ (by decide +kernel)) ggX8_put_X0_replace
theorem dX8_put_0 : decode cX8_put 0 = .ok (.aload_n 0, 1) := by decide +kernel
theorem dX8_put_1 : decode cX8_put 1 = .ok (.iload_n 1, 1) := by decide +kernel
theorem dX8_put_2 : decode cX8_put 2 = .ok (.iload_n 2, 1) := by decide +kernel
theorem dX8_put_3 : decode cX8_put 3 = .ok (.iload_n 3, 1) := by decide +kernel
theorem dX8_put_4 : decode cX8_put 4 = .ok (.invokevirtual 76, 3) := by decide +kernel
theorem dX8_put_7 : decode cX8_put 7 = .ok (.ifCond .eq 11, 3) := by decide +kernel
theorem dX8_put_10 : decode cX8_put 10 = .ok (.iload 4, 2) := by decide +kernel
theorem dX8_put_12 : decode cX8_put 12 = .ok (.invokestatic 65, 3) := by decide +kernel
theorem dX8_put_15 : decode cX8_put 15 = .ok (.ifCond .ne 6, 3) := by decide +kernel
theorem dX8_put_18 : decode cX8_put 18 = .ok (.bipush (-11), 2) := by decide +kernel
theorem dX8_put_20 : decode cX8_put 20 = .ok (.ireturn, 1) := by decide +kernel
theorem dX8_put_21 : decode cX8_put 21 = .ok (.aload_n 0, 1) := by decide +kernel
theorem dX8_put_22 : decode cX8_put 22 = .ok (.getfield 19, 3) := by decide +kernel
theorem dX8_put_25 : decode cX8_put 25 = .ok (.aload_n 0, 1) := by decide +kernel
theorem dX8_put_26 : decode cX8_put 26 = .ok (.getfield 12, 3) := by decide +kernel
theorem dX8_put_29 : decode cX8_put 29 = .ok (.invokevirtual 52, 3) := by decide +kernel
theorem dX8_put_32 : decode cX8_put 32 = .ok (.aload_n 0, 1) := by decide +kernel
theorem dX8_put_33 : decode cX8_put 33 = .ok (.getfield 12, 3) := by decide +kernel
theorem dX8_put_36 : decode cX8_put 36 = .ok (.iload_n 1, 1) := by decide +kernel
theorem dX8_put_37 : decode cX8_put 37 = .ok (.invokevirtual 55, 3) := by decide +kernel
theorem dX8_put_40 : decode cX8_put 40 = .ok (.iload_n 2, 1) := by decide +kernel
theorem dX8_put_41 : decode cX8_put 41 = .ok (.iload_n 3, 1) := by decide +kernel
theorem dX8_put_42 : decode cX8_put 42 = .ok (.iload 4, 2) := by decide +kernel
theorem dX8_put_44 : decode cX8_put 44 = .ok (.invokevirtual 80, 3) := by decide +kernel
theorem dX8_put_47 : decode cX8_put 47 = .ok (.ireturn, 1) := by decide +kernel
set_option maxRecDepth 20000 in
theorem ggX8_drop_X8_isBit : GoodIn wsX8_drop wsX8_isBit := goodIn_r _ [6] (by decide +kernel) (by decide +kernel)
set_option maxRecDepth 20000 in
theorem gX8_drop_X8_isBit : GoodIn wsX8_drop (va_wsS RX8 48 yX8_isBit wsX8_isBit) := goodIn_app (goodIn_of _ (by decide +kernel)) ggX8_drop_X8_isBit
set_option maxRecDepth 20000 in
theorem ggX8_drop_X6_drawer : GoodIn wsX8_drop wsX6_drawer := goodIn_r _ [11, 12, 13, 83, 84, 85, 86, 87, 88] (by decide +kernel) (by decide +kernel)
set_option maxRecDepth 20000 in
theorem gX8_drop_X6_drawer : GoodIn wsX8_drop (wsV RX8 55 RX6 yX6_drawer wsX6_drawer) := goodIn_app (goodIn_of _ (by decide +kernel)) ggX8_drop_X6_drawer
set_option maxRecDepth 20000 in
theorem ggX8_drop_X0_hasCard : GoodIn wsX8_drop wsX0_hasCard := goodIn_r _ [18, 19, 89, 90, 91, 92] (by decide +kernel) (by decide +kernel)
set_option maxRecDepth 20000 in
theorem gX8_drop_X0_hasCard : GoodIn wsX8_drop (wsV RX8 84 RX0 yX0_hasCard wsX0_hasCard) := goodIn_app (goodIn_of _ (by decide +kernel)) ggX8_drop_X0_hasCard
set_option maxRecDepth 20000 in
theorem ggX8_drop_X2_keep : GoodIn wsX8_drop wsX2_keep := goodIn_r _ [24, 25, 26, 27, 28, 29, 30, 31, 32, 33, 34, 35, 36, 10, 37, 12, 13, 38, 39, 40, 41, 42, 43, 44, 17, 45, 46, 47, 48, 19, 49, 50, 51, 52, 53, 54, 55, 56, 57, 58, 59, 60, 61, 62, 63, 64, 65, 66, 67, 68, 93, 94, 95, 96, 97, 83, 84, 85, 86, 87, 88, 89, 90, 91, 92, 98, 99, 100, 101] (by decide +kernel) (by decide +kernel)
set_option maxRecDepth 20000 in
theorem gX8_drop_X2_keep : GoodIn wsX8_drop (wsV RX8 52 RX2 yX2_keep wsX2_keep) := goodIn_app (goodIn_of _ (by decide +kernel)) ggX8_drop_X2_keep
set_option maxRecDepth 20000 in
theorem ggX8_drop_X0_remove : GoodIn wsX8_drop wsX0_remove := goodIn_r _ [72, 19, 46, 73, 56, 57, 52, 58, 54, 74, 75, 76, 77, 89, 90, 91, 92, 98] (by decide +kernel) (by decide +kernel)
set_option maxRecDepth 20000 in
theorem gX8_drop_X0_remove : GoodIn wsX8_drop (wsV RX8 87 RX0 yX0_remove wsX0_remove) := goodIn_app (goodIn_of _ (by decide +kernel)) ggX8_drop_X0_remove
theorem dX8_drop_0 : decode cX8_drop 0 = .ok (.iload_n 1, 1) := by decide +kernel
theorem dX8_drop_1 : decode cX8_drop 1 = .ok (.invokestatic 48, 3) := by decide +kernel
theorem dX8_drop_4 : decode cX8_drop 4 = .ok (.ifCond .eq 18, 3) := by decide +kernel
theorem dX8_drop_7 : decode cX8_drop 7 = .ok (.aload_n 0, 1) := by decide +kernel
theorem dX8_drop_8 : decode cX8_drop 8 = .ok (.getfield 12, 3) := by decide +kernel
theorem dX8_drop_11 : decode cX8_drop 11 = .ok (.iload_n 1, 1) := by decide +kernel
theorem dX8_drop_12 : decode cX8_drop 12 = .ok (.invokevirtual 55, 3) := by decide +kernel
theorem dX8_drop_15 : decode cX8_drop 15 = .ok (.iload_n 2, 1) := by decide +kernel
theorem dX8_drop_16 : decode cX8_drop 16 = .ok (.invokevirtual 84, 3) := by decide +kernel
theorem dX8_drop_19 : decode cX8_drop 19 = .ok (.ifCond .ne 6, 3) := by decide +kernel
theorem dX8_drop_22 : decode cX8_drop 22 = .ok (.bipush (-11), 2) := by decide +kernel
theorem dX8_drop_24 : decode cX8_drop 24 = .ok (.ireturn, 1) := by decide +kernel
theorem dX8_drop_25 : decode cX8_drop 25 = .ok (.aload_n 0, 1) := by decide +kernel
theorem dX8_drop_26 : decode cX8_drop 26 = .ok (.getfield 19, 3) := by decide +kernel
theorem dX8_drop_29 : decode cX8_drop 29 = .ok (.aload_n 0, 1) := by decide +kernel
theorem dX8_drop_30 : decode cX8_drop 30 = .ok (.getfield 12, 3) := by decide +kernel
theorem dX8_drop_33 : decode cX8_drop 33 = .ok (.invokevirtual 52, 3) := by decide +kernel
theorem dX8_drop_36 : decode cX8_drop 36 = .ok (.aload_n 0, 1) := by decide +kernel
theorem dX8_drop_37 : decode cX8_drop 37 = .ok (.getfield 12, 3) := by decide +kernel
theorem dX8_drop_40 : decode cX8_drop 40 = .ok (.iload_n 1, 1) := by decide +kernel
theorem dX8_drop_41 : decode cX8_drop 41 = .ok (.invokevirtual 55, 3) := by decide +kernel
theorem dX8_drop_44 : decode cX8_drop 44 = .ok (.iload_n 2, 1) := by decide +kernel
theorem dX8_drop_45 : decode cX8_drop 45 = .ok (.invokevirtual 87, 3) := by decide +kernel
theorem dX8_drop_48 : decode cX8_drop 48 = .ok (.ireturn, 1) := by decide +kernel
set_option maxRecDepth 20000 in
theorem ggX8_valueOf_X8_isPlace : GoodIn wsX8_valueOf wsX8_isPlace := goodIn_r _ [6, 1, 7, 8, 9, 5, 10, 11, 12, 13, 14, 15, 16, 17, 18, 19, 20, 21, 22, 23, 24, 25, 26, 27, 28, 29, 30, 31, 45, 46, 47, 48, 49, 50, 51, 52, 53, 54, 55, 56, 57, 58, 59] (by decide +kernel) (by decide +kernel)
set_option maxRecDepth 20000 in
theorem gX8_valueOf_X8_isPlace : GoodIn wsX8_valueOf (wsV RX8 76 RX8 yX8_isPlace wsX8_isPlace) := goodIn_app (goodIn_of _ (by decide +kernel)) ggX8_valueOf_X8_isPlace
set_option maxRecDepth 20000 in
theorem ggX8_valueOf_X6_drawer : GoodIn wsX8_valueOf wsX6_drawer := goodIn_r _ [18, 19, 20, 50, 51, 52, 53, 54, 55] (by decide +kernel) (by decide +kernel)
set_option maxRecDepth 20000 in
theorem gX8_valueOf_X6_drawer : GoodIn wsX8_valueOf (wsV RX8 55 RX6 yX6_drawer wsX6_drawer) := goodIn_app (goodIn_of _ (by decide +kernel)) ggX8_valueOf_X6_drawer
set_option maxRecDepth 20000 in
theorem ggX8_valueOf_X0_entry : GoodIn wsX8_valueOf wsX0_entry := goodIn_r _ [35, 36, 37, 28, 29, 24, 30, 31, 38, 22, 23, 25, 26, 39, 40, 41, 42, 43, 44, 56, 57, 58, 59, 60] (by decide +kernel) (by decide +kernel)
set_option maxRecDepth 20000 in
theorem gX8_valueOf_X0_entry : GoodIn wsX8_valueOf (wsV RX8 90 RX0 yX0_entry wsX0_entry) := goodIn_app (goodIn_of _ (by decide +kernel)) ggX8_valueOf_X0_entry
theorem dX8_valueOf_0 : decode cX8_valueOf 0 = .ok (.aload_n 0, 1) := by decide +kernel
theorem dX8_valueOf_1 : decode cX8_valueOf 1 = .ok (.iload_n 1, 1) := by decide +kernel
theorem dX8_valueOf_2 : decode cX8_valueOf 2 = .ok (.iload_n 2, 1) := by decide +kernel
theorem dX8_valueOf_3 : decode cX8_valueOf 3 = .ok (.iload_n 3, 1) := by decide +kernel
theorem dX8_valueOf_4 : decode cX8_valueOf 4 = .ok (.invokevirtual 76, 3) := by decide +kernel
theorem dX8_valueOf_7 : decode cX8_valueOf 7 = .ok (.ifCond .ne 6, 3) := by decide +kernel
theorem dX8_valueOf_10 : decode cX8_valueOf 10 = .ok (.bipush (-11), 2) := by decide +kernel
theorem dX8_valueOf_12 : decode cX8_valueOf 12 = .ok (.ireturn, 1) := by decide +kernel
theorem dX8_valueOf_13 : decode cX8_valueOf 13 = .ok (.aload_n 0, 1) := by decide +kernel
theorem dX8_valueOf_14 : decode cX8_valueOf 14 = .ok (.getfield 12, 3) := by decide +kernel
theorem dX8_valueOf_17 : decode cX8_valueOf 17 = .ok (.iload_n 1, 1) := by decide +kernel
theorem dX8_valueOf_18 : decode cX8_valueOf 18 = .ok (.invokevirtual 55, 3) := by decide +kernel
theorem dX8_valueOf_21 : decode cX8_valueOf 21 = .ok (.iload_n 2, 1) := by decide +kernel
theorem dX8_valueOf_22 : decode cX8_valueOf 22 = .ok (.iload_n 3, 1) := by decide +kernel
theorem dX8_valueOf_23 : decode cX8_valueOf 23 = .ok (.invokevirtual 90, 3) := by decide +kernel
theorem dX8_valueOf_26 : decode cX8_valueOf 26 = .ok (.ireturn, 1) := by decide +kernel
set_option maxRecDepth 20000 in
theorem ggX8_cell_X8_isCell : GoodIn wsX8_cell wsX8_isCell := goodIn_r _ [7, 2, 8, 9, 6, 10, 11, 12, 13, 14, 15, 16, 17, 18, 19, 20, 21, 22, 23, 96, 97, 98, 99, 100, 101, 102, 103, 104, 105, 106, 107, 108, 109, 110] (by decide +kernel) (by decide +kernel)
set_option maxRecDepth 20000 in
theorem gX8_cell_X8_isCell : GoodIn wsX8_cell (wsV RX8 94 RX8 yX8_isCell wsX8_isCell) := goodIn_app (goodIn_of _ (by decide +kernel)) ggX8_cell_X8_isCell
set_option maxRecDepth 20000 in
theorem ggX8_cell_X8_isContent : GoodIn wsX8_cell wsX8_isContent := goodIn_r _ [26, 27, 28, 6, 29] (by decide +kernel) (by decide +kernel)
set_option maxRecDepth 20000 in
theorem gX8_cell_X8_isContent : GoodIn wsX8_cell (va_wsS RX8 98 yX8_isContent wsX8_isContent) := goodIn_app (goodIn_of _ (by decide +kernel)) ggX8_cell_X8_isContent
set_option maxRecDepth 20000 in
theorem ggX8_cell_X2_keep : GoodIn wsX8_cell wsX2_keep := goodIn_r _ [34, 35, 36, 37, 38, 39, 40, 41, 42, 43, 44, 45, 46, 14, 47, 16, 17, 48, 49, 50, 51, 52, 53, 54, 21, 55, 56, 57, 23, 58, 59, 60, 61, 62, 63, 64, 65, 66, 67, 68, 69, 70, 71, 72, 73, 74, 75, 76, 77, 78, 111, 112, 113, 114, 115, 101, 102, 103, 104, 105, 106, 107, 108, 109, 110, 116, 117, 118, 119] (by decide +kernel) (by decide +kernel)
set_option maxRecDepth 20000 in
theorem gX8_cell_X2_keep : GoodIn wsX8_cell (wsV RX8 52 RX2 yX2_keep wsX2_keep) := goodIn_app (goodIn_of _ (by decide +kernel)) ggX8_cell_X2_keep
set_option maxRecDepth 20000 in
theorem ggX8_cell_X6_drawer : GoodIn wsX8_cell wsX6_drawer := goodIn_r _ [15, 16, 17, 101, 102, 103, 104, 105, 106] (by decide +kernel) (by decide +kernel)
set_option maxRecDepth 20000 in
theorem gX8_cell_X6_drawer : GoodIn wsX8_cell (wsV RX8 55 RX6 yX6_drawer wsX6_drawer) := goodIn_app (goodIn_of _ (by decide +kernel)) ggX8_cell_X6_drawer
set_option maxRecDepth 20000 in
theorem ggX8_cell_X0_example : GoodIn wsX8_cell wsX0_example := goodIn_r _ [82, 57, 107, 108, 109, 110] (by decide +kernel) (by decide +kernel)
set_option maxRecDepth 20000 in
theorem gX8_cell_X0_example : GoodIn wsX8_cell (wsV RX8 101 RX0 yX0_example wsX0_example) := goodIn_app (goodIn_of _ (by decide +kernel)) ggX8_cell_X0_example
set_option maxRecDepth 20000 in
theorem ggX8_cell_X1_kindAt : GoodIn wsX8_cell wsX1_kindAt := goodIn_r _ [86, 74, 87, 66, 67, 62, 68, 64, 117, 118, 119, 116] (by decide +kernel) (by decide +kernel)
set_option maxRecDepth 20000 in
theorem gX8_cell_X1_kindAt : GoodIn wsX8_cell (wsV RX8 105 RX1 yX1_kindAt wsX1_kindAt) := goodIn_app (goodIn_of _ (by decide +kernel)) ggX8_cell_X1_kindAt
set_option maxRecDepth 20000 in
theorem ggX8_cell_X1_fill : GoodIn wsX8_cell wsX1_fill := goodIn_r _ [91, 74, 75, 76, 92, 93, 94, 62, 95, 64, 117, 118, 119, 116] (by decide +kernel) (by decide +kernel)
set_option maxRecDepth 20000 in
theorem gX8_cell_X1_fill : GoodIn wsX8_cell (wsV RX8 110 RX1 yX1_fill wsX1_fill) := goodIn_app (goodIn_of _ (by decide +kernel)) ggX8_cell_X1_fill
theorem dX8_cell_0 : decode cX8_cell 0 = .ok (.aload_n 0, 1) := by decide +kernel
theorem dX8_cell_1 : decode cX8_cell 1 = .ok (.iload_n 1, 1) := by decide +kernel
theorem dX8_cell_2 : decode cX8_cell 2 = .ok (.iload_n 2, 1) := by decide +kernel
theorem dX8_cell_3 : decode cX8_cell 3 = .ok (.invokevirtual 94, 3) := by decide +kernel
theorem dX8_cell_6 : decode cX8_cell 6 = .ok (.ifCond .eq 14, 3) := by decide +kernel
theorem dX8_cell_9 : decode cX8_cell 9 = .ok (.iload_n 3, 1) := by decide +kernel
theorem dX8_cell_10 : decode cX8_cell 10 = .ok (.iload 4, 2) := by decide +kernel
theorem dX8_cell_12 : decode cX8_cell 12 = .ok (.iload 5, 2) := by decide +kernel
theorem dX8_cell_14 : decode cX8_cell 14 = .ok (.invokestatic 98, 3) := by decide +kernel
theorem dX8_cell_17 : decode cX8_cell 17 = .ok (.ifCond .ne 6, 3) := by decide +kernel
theorem dX8_cell_20 : decode cX8_cell 20 = .ok (.bipush (-11), 2) := by decide +kernel
theorem dX8_cell_22 : decode cX8_cell 22 = .ok (.ireturn, 1) := by decide +kernel
theorem dX8_cell_23 : decode cX8_cell 23 = .ok (.aload_n 0, 1) := by decide +kernel
theorem dX8_cell_24 : decode cX8_cell 24 = .ok (.getfield 19, 3) := by decide +kernel
theorem dX8_cell_27 : decode cX8_cell 27 = .ok (.aload_n 0, 1) := by decide +kernel
theorem dX8_cell_28 : decode cX8_cell 28 = .ok (.getfield 12, 3) := by decide +kernel
theorem dX8_cell_31 : decode cX8_cell 31 = .ok (.invokevirtual 52, 3) := by decide +kernel
theorem dX8_cell_34 : decode cX8_cell 34 = .ok (.aload_n 0, 1) := by decide +kernel
theorem dX8_cell_35 : decode cX8_cell 35 = .ok (.getfield 12, 3) := by decide +kernel
theorem dX8_cell_38 : decode cX8_cell 38 = .ok (.iload_n 1, 1) := by decide +kernel
theorem dX8_cell_39 : decode cX8_cell 39 = .ok (.invokevirtual 55, 3) := by decide +kernel
theorem dX8_cell_42 : decode cX8_cell 42 = .ok (.invokevirtual 101, 3) := by decide +kernel
theorem dX8_cell_45 : decode cX8_cell 45 = .ok (.astore 6, 2) := by decide +kernel
theorem dX8_cell_47 : decode cX8_cell 47 = .ok (.aload 6, 2) := by decide +kernel
theorem dX8_cell_49 : decode cX8_cell 49 = .ok (.iload_n 2, 1) := by decide +kernel
theorem dX8_cell_50 : decode cX8_cell 50 = .ok (.invokevirtual 105, 3) := by decide +kernel
theorem dX8_cell_53 : decode cX8_cell 53 = .ok (.istore 7, 2) := by decide +kernel
theorem dX8_cell_55 : decode cX8_cell 55 = .ok (.aload 6, 2) := by decide +kernel
theorem dX8_cell_57 : decode cX8_cell 57 = .ok (.iload_n 2, 1) := by decide +kernel
theorem dX8_cell_58 : decode cX8_cell 58 = .ok (.iload_n 3, 1) := by decide +kernel
theorem dX8_cell_59 : decode cX8_cell 59 = .ok (.iload 4, 2) := by decide +kernel
theorem dX8_cell_61 : decode cX8_cell 61 = .ok (.iload 5, 2) := by decide +kernel
theorem dX8_cell_63 : decode cX8_cell 63 = .ok (.invokevirtual 110, 3) := by decide +kernel
theorem dX8_cell_66 : decode cX8_cell 66 = .ok (.iload 7, 2) := by decide +kernel
theorem dX8_cell_68 : decode cX8_cell 68 = .ok (.ireturn, 1) := by decide +kernel
set_option maxRecDepth 20000 in
theorem ggX8_clear_X8_isBit : GoodIn wsX8_clear wsX8_isBit := goodIn_r _ [6] (by decide +kernel) (by decide +kernel)
set_option maxRecDepth 20000 in
theorem gX8_clear_X8_isBit : GoodIn wsX8_clear (va_wsS RX8 48 yX8_isBit wsX8_isBit) := goodIn_app (goodIn_of _ (by decide +kernel)) ggX8_clear_X8_isBit
set_option maxRecDepth 20000 in
theorem ggX8_clear_X2_keep : GoodIn wsX8_clear wsX2_keep := goodIn_r _ [11, 12, 13, 14, 15, 16, 17, 18, 19, 20, 21, 22, 23, 24, 25, 26, 27, 28, 29, 30, 31, 32, 33, 34, 35, 36, 37, 38, 39, 40, 41, 42, 43, 44, 45, 46, 47, 48, 49, 50, 51, 52, 53, 54, 55, 56, 57, 58, 59, 60, 87, 88, 89, 90, 91, 92, 93, 94, 95, 96, 97, 98, 99, 100, 101, 102, 103, 104, 105] (by decide +kernel) (by decide +kernel)
set_option maxRecDepth 20000 in
theorem gX8_clear_X2_keep : GoodIn wsX8_clear (wsV RX8 52 RX2 yX2_keep wsX2_keep) := goodIn_app (goodIn_of _ (by decide +kernel)) ggX8_clear_X2_keep
set_option maxRecDepth 20000 in
theorem ggX8_clear_X6_drawer : GoodIn wsX8_clear wsX6_drawer := goodIn_r _ [64, 26, 27, 92, 93, 94, 95, 96, 97] (by decide +kernel) (by decide +kernel)
set_option maxRecDepth 20000 in
theorem gX8_clear_X6_drawer : GoodIn wsX8_clear (wsV RX8 55 RX6 yX6_drawer wsX6_drawer) := goodIn_app (goodIn_of _ (by decide +kernel)) ggX8_clear_X6_drawer
set_option maxRecDepth 20000 in
theorem ggX8_clear_X0_example : GoodIn wsX8_clear wsX0_example := goodIn_r _ [68, 38, 98, 99, 100, 101] (by decide +kernel) (by decide +kernel)
set_option maxRecDepth 20000 in
theorem gX8_clear_X0_example : GoodIn wsX8_clear (wsV RX8 101 RX0 yX0_example wsX0_example) := goodIn_app (goodIn_of _ (by decide +kernel)) ggX8_clear_X0_example
set_option maxRecDepth 20000 in
theorem ggX8_clear_X1_otherKinds : GoodIn wsX8_clear wsX1_otherKinds := goodIn_r _ [72, 56, 73, 48, 49, 44, 50, 46, 103, 104, 105, 102] (by decide +kernel) (by decide +kernel)
set_option maxRecDepth 20000 in
theorem gX8_clear_X1_otherKinds : GoodIn wsX8_clear (wsV RX8 114 RX1 yX1_otherKinds wsX1_otherKinds) := goodIn_app (goodIn_of _ (by decide +kernel)) ggX8_clear_X1_otherKinds
set_option maxRecDepth 20000 in
theorem ggX8_clear_X1_wipe : GoodIn wsX8_clear wsX1_wipe := goodIn_r _ [77, 56, 57, 58, 78, 79, 80, 44, 81, 46, 103, 104, 105, 102] (by decide +kernel) (by decide +kernel)
set_option maxRecDepth 20000 in
theorem gX8_clear_X1_wipe : GoodIn wsX8_clear (wsV RX8 117 RX1 yX1_wipe wsX1_wipe) := goodIn_app (goodIn_of _ (by decide +kernel)) ggX8_clear_X1_wipe
theorem dX8_clear_0 : decode cX8_clear 0 = .ok (.iload_n 1, 1) := by decide +kernel
theorem dX8_clear_1 : decode cX8_clear 1 = .ok (.invokestatic 48, 3) := by decide +kernel
theorem dX8_clear_4 : decode cX8_clear 4 = .ok (.ifCond .ne 6, 3) := by decide +kernel
theorem dX8_clear_7 : decode cX8_clear 7 = .ok (.bipush (-11), 2) := by decide +kernel
theorem dX8_clear_9 : decode cX8_clear 9 = .ok (.ireturn, 1) := by decide +kernel
theorem dX8_clear_10 : decode cX8_clear 10 = .ok (.aload_n 0, 1) := by decide +kernel
theorem dX8_clear_11 : decode cX8_clear 11 = .ok (.getfield 19, 3) := by decide +kernel
theorem dX8_clear_14 : decode cX8_clear 14 = .ok (.aload_n 0, 1) := by decide +kernel
theorem dX8_clear_15 : decode cX8_clear 15 = .ok (.getfield 12, 3) := by decide +kernel
theorem dX8_clear_18 : decode cX8_clear 18 = .ok (.invokevirtual 52, 3) := by decide +kernel
theorem dX8_clear_21 : decode cX8_clear 21 = .ok (.aload_n 0, 1) := by decide +kernel
theorem dX8_clear_22 : decode cX8_clear 22 = .ok (.getfield 12, 3) := by decide +kernel
theorem dX8_clear_25 : decode cX8_clear 25 = .ok (.iload_n 1, 1) := by decide +kernel
theorem dX8_clear_26 : decode cX8_clear 26 = .ok (.invokevirtual 55, 3) := by decide +kernel
theorem dX8_clear_29 : decode cX8_clear 29 = .ok (.invokevirtual 101, 3) := by decide +kernel
theorem dX8_clear_32 : decode cX8_clear 32 = .ok (.astore_n 2, 1) := by decide +kernel
theorem dX8_clear_33 : decode cX8_clear 33 = .ok (.aload_n 2, 1) := by decide +kernel
theorem dX8_clear_34 : decode cX8_clear 34 = .ok (.invokevirtual 114, 3) := by decide +kernel
theorem dX8_clear_37 : decode cX8_clear 37 = .ok (.istore_n 3, 1) := by decide +kernel
theorem dX8_clear_38 : decode cX8_clear 38 = .ok (.aload_n 2, 1) := by decide +kernel
theorem dX8_clear_39 : decode cX8_clear 39 = .ok (.invokevirtual 117, 3) := by decide +kernel
theorem dX8_clear_42 : decode cX8_clear 42 = .ok (.iload_n 3, 1) := by decide +kernel
theorem dX8_clear_43 : decode cX8_clear 43 = .ok (.ireturn, 1) := by decide +kernel
set_option maxRecDepth 20000 in
theorem ggX8_both_X8_isBit : GoodIn wsX8_both wsX8_isBit := goodIn_r _ [6] (by decide +kernel) (by decide +kernel)
set_option maxRecDepth 20000 in
theorem gX8_both_X8_isBit : GoodIn wsX8_both (va_wsS RX8 48 yX8_isBit wsX8_isBit) := goodIn_app (goodIn_of _ (by decide +kernel)) ggX8_both_X8_isBit
set_option maxRecDepth 20000 in
theorem ggX8_both_X2_keep : GoodIn wsX8_both wsX2_keep := goodIn_r _ [11, 12, 13, 14, 15, 16, 17, 18, 19, 20, 21, 22, 23, 24, 25, 26, 27, 28, 29, 30, 31, 32, 33, 34, 35, 36, 37, 38, 39, 40, 41, 42, 43, 44, 45, 46, 47, 48, 49, 50, 51, 52, 53, 54, 55, 56, 57, 58, 59, 60, 70, 71, 72, 73, 74, 75, 76, 77, 78, 79, 80, 81, 82, 83, 84, 85, 86, 87, 88] (by decide +kernel) (by decide +kernel)
set_option maxRecDepth 20000 in
theorem gX8_both_X2_keep : GoodIn wsX8_both (wsV RX8 52 RX2 yX2_keep wsX2_keep) := goodIn_app (goodIn_of _ (by decide +kernel)) ggX8_both_X2_keep
set_option maxRecDepth 20000 in
theorem ggX8_both_X6_askBoth : GoodIn wsX8_both wsX6_askBoth := goodIn_r _ [64, 30, 75, 76, 77, 78, 79, 80] (by decide +kernel) (by decide +kernel)
set_option maxRecDepth 20000 in
theorem gX8_both_X6_askBoth : GoodIn wsX8_both (wsV RX8 120 RX6 yX6_askBoth wsX6_askBoth) := goodIn_app (goodIn_of _ (by decide +kernel)) ggX8_both_X6_askBoth
theorem dX8_both_0 : decode cX8_both 0 = .ok (.iload_n 1, 1) := by decide +kernel
theorem dX8_both_1 : decode cX8_both 1 = .ok (.invokestatic 48, 3) := by decide +kernel
theorem dX8_both_4 : decode cX8_both 4 = .ok (.ifCond .ne 6, 3) := by decide +kernel
theorem dX8_both_7 : decode cX8_both 7 = .ok (.bipush (-11), 2) := by decide +kernel
theorem dX8_both_9 : decode cX8_both 9 = .ok (.ireturn, 1) := by decide +kernel
theorem dX8_both_10 : decode cX8_both 10 = .ok (.aload_n 0, 1) := by decide +kernel
theorem dX8_both_11 : decode cX8_both 11 = .ok (.getfield 19, 3) := by decide +kernel
theorem dX8_both_14 : decode cX8_both 14 = .ok (.aload_n 0, 1) := by decide +kernel
theorem dX8_both_15 : decode cX8_both 15 = .ok (.getfield 12, 3) := by decide +kernel
theorem dX8_both_18 : decode cX8_both 18 = .ok (.invokevirtual 52, 3) := by decide +kernel
theorem dX8_both_21 : decode cX8_both 21 = .ok (.aload_n 0, 1) := by decide +kernel
theorem dX8_both_22 : decode cX8_both 22 = .ok (.getfield 12, 3) := by decide +kernel
theorem dX8_both_25 : decode cX8_both 25 = .ok (.iload_n 1, 1) := by decide +kernel
theorem dX8_both_26 : decode cX8_both 26 = .ok (.invokevirtual 120, 3) := by decide +kernel
theorem dX8_both_29 : decode cX8_both 29 = .ok (.ireturn, 1) := by decide +kernel
set_option maxRecDepth 20000 in
theorem ggX8_order_X8_isBit : GoodIn wsX8_order wsX8_isBit := goodIn_r _ [7] (by decide +kernel) (by decide +kernel)
set_option maxRecDepth 20000 in
theorem gX8_order_X8_isBit : GoodIn wsX8_order (va_wsS RX8 48 yX8_isBit wsX8_isBit) := goodIn_app (goodIn_of _ (by decide +kernel)) ggX8_order_X8_isBit
set_option maxRecDepth 20000 in
theorem ggX8_order_X2_keep : GoodIn wsX8_order wsX2_keep := goodIn_r _ [12, 13, 14, 15, 16, 17, 18, 19, 20, 21, 22, 23, 24, 25, 26, 27, 28, 29, 30, 31, 32, 33, 34, 35, 36, 37, 38, 39, 40, 41, 42, 43, 44, 45, 46, 47, 48, 49, 50, 51, 52, 53, 54, 55, 56, 57, 58, 59, 60, 61, 159, 160, 161, 162, 163, 164, 165, 166, 167, 168, 169, 170, 171, 172, 173, 174, 175, 176, 177] (by decide +kernel) (by decide +kernel)
set_option maxRecDepth 20000 in
theorem gX8_order_X2_keep : GoodIn wsX8_order (wsV RX8 52 RX2 yX2_keep wsX2_keep) := goodIn_app (goodIn_of _ (by decide +kernel)) ggX8_order_X2_keep
set_option maxRecDepth 20000 in
theorem ggX8_order_X6_setOrder : GoodIn wsX8_order wsX6_setOrder := goodIn_r _ [65, 29, 30, 66, 67, 68, 45, 69, 47, 164, 165, 166, 167, 168, 169, 174] (by decide +kernel) (by decide +kernel)
set_option maxRecDepth 20000 in
theorem gX8_order_X6_setOrder : GoodIn wsX8_order (wsV RX8 123 RX6 yX6_setOrder wsX6_setOrder) := goodIn_app (goodIn_of _ (by decide +kernel)) ggX8_order_X6_setOrder
set_option maxRecDepth 20000 in
theorem ggX8_order_X5_find : GoodIn wsX8_order wsX5_find := goodIn_r _ [74, 75, 76, 77, 78, 79, 80, 73, 81, 82, 83, 84, 85, 86, 45, 87, 47, 88, 89, 90, 25, 91, 27, 28, 92, 93, 94, 36, 95, 39, 96, 97, 98, 99, 100, 101, 102, 103, 40, 104, 105, 106, 107, 31, 108, 109, 110, 55, 111, 57, 112, 49, 50, 51, 113, 114, 115, 116, 58, 117, 67, 68, 69, 118, 119, 120, 121, 122, 123, 124, 125, 41, 126, 127, 128, 129, 130, 131, 132, 133, 134, 135, 136, 137, 138, 139, 140, 141, 142, 38, 143, 144, 145, 146, 147, 148, 149, 150, 151, 152, 59, 153, 178, 179, 180, 181, 182, 183, 174, 164, 165, 166, 167, 168, 169, 170, 171, 172, 173, 175, 176, 177] (by decide +kernel) (by decide +kernel)
set_option maxRecDepth 20000 in
theorem gX8_order_X5_find : GoodIn wsX8_order (wsV RX8 127 RX5 yX5_find wsX5_find) := goodIn_app (goodIn_of _ (by decide +kernel)) ggX8_order_X5_find
theorem dX8_order_0 : decode cX8_order 0 = .ok (.iload_n 1, 1) := by decide +kernel
theorem dX8_order_1 : decode cX8_order 1 = .ok (.invokestatic 48, 3) := by decide +kernel
theorem dX8_order_4 : decode cX8_order 4 = .ok (.ifCond .eq 21, 3) := by decide +kernel
theorem dX8_order_7 : decode cX8_order 7 = .ok (.iload_n 2, 1) := by decide +kernel
theorem dX8_order_8 : decode cX8_order 8 = .ok (.iconst (-1), 1) := by decide +kernel
theorem dX8_order_9 : decode cX8_order 9 = .ok (.if_icmp .lt 16, 3) := by decide +kernel
theorem dX8_order_12 : decode cX8_order 12 = .ok (.iload_n 2, 1) := by decide +kernel
theorem dX8_order_13 : decode cX8_order 13 = .ok (.bipush 8, 2) := by decide +kernel
theorem dX8_order_15 : decode cX8_order 15 = .ok (.if_icmp .ge 10, 3) := by decide +kernel
theorem dX8_order_18 : decode cX8_order 18 = .ok (.iload_n 3, 1) := by decide +kernel
theorem dX8_order_19 : decode cX8_order 19 = .ok (.invokestatic 48, 3) := by decide +kernel
theorem dX8_order_22 : decode cX8_order 22 = .ok (.ifCond .ne 6, 3) := by decide +kernel
theorem dX8_order_25 : decode cX8_order 25 = .ok (.bipush (-11), 2) := by decide +kernel
theorem dX8_order_27 : decode cX8_order 27 = .ok (.ireturn, 1) := by decide +kernel
theorem dX8_order_28 : decode cX8_order 28 = .ok (.aload_n 0, 1) := by decide +kernel
theorem dX8_order_29 : decode cX8_order 29 = .ok (.getfield 19, 3) := by decide +kernel
theorem dX8_order_32 : decode cX8_order 32 = .ok (.aload_n 0, 1) := by decide +kernel
theorem dX8_order_33 : decode cX8_order 33 = .ok (.getfield 12, 3) := by decide +kernel
theorem dX8_order_36 : decode cX8_order 36 = .ok (.invokevirtual 52, 3) := by decide +kernel
theorem dX8_order_39 : decode cX8_order 39 = .ok (.aload_n 0, 1) := by decide +kernel
theorem dX8_order_40 : decode cX8_order 40 = .ok (.getfield 12, 3) := by decide +kernel
theorem dX8_order_43 : decode cX8_order 43 = .ok (.iload_n 1, 1) := by decide +kernel
theorem dX8_order_44 : decode cX8_order 44 = .ok (.iload_n 2, 1) := by decide +kernel
theorem dX8_order_45 : decode cX8_order 45 = .ok (.iload_n 3, 1) := by decide +kernel
theorem dX8_order_46 : decode cX8_order 46 = .ok (.invokevirtual 123, 3) := by decide +kernel
theorem dX8_order_49 : decode cX8_order 49 = .ok (.aload_n 0, 1) := by decide +kernel
theorem dX8_order_50 : decode cX8_order 50 = .ok (.getfield 28, 3) := by decide +kernel
theorem dX8_order_53 : decode cX8_order 53 = .ok (.iconst (-1), 1) := by decide +kernel
theorem dX8_order_54 : decode cX8_order 54 = .ok (.invokevirtual 127, 3) := by decide +kernel
theorem dX8_order_57 : decode cX8_order 57 = .ok (.ireturn, 1) := by decide +kernel
set_option maxRecDepth 20000 in
theorem ggX8_show_X2_keep : GoodIn wsX8_show wsX2_keep := goodIn_r _ [8, 9, 10, 11, 12, 13, 14, 15, 16, 17, 18, 19, 20, 21, 22, 23, 24, 25, 26, 27, 28, 29, 30, 31, 32, 33, 34, 35, 36, 37, 38, 39, 40, 41, 42, 43, 44, 45, 46, 47, 48, 49, 50, 51, 52, 53, 54, 55, 56, 57, 177, 178, 179, 180, 181, 182, 183, 184, 185, 186, 187, 188, 189, 190, 191, 192, 193, 194, 195] (by decide +kernel) (by decide +kernel)
set_option maxRecDepth 20000 in
theorem gX8_show_X2_keep : GoodIn wsX8_show (wsV RX8 52 RX2 yX2_keep wsX2_keep) := goodIn_app (goodIn_of _ (by decide +kernel)) ggX8_show_X2_keep
set_option maxRecDepth 20000 in
theorem ggX8_show_X6_setShown : GoodIn wsX8_show wsX6_setShown := goodIn_r _ [61, 28, 182, 183, 184, 185, 186, 187] (by decide +kernel) (by decide +kernel)
set_option maxRecDepth 20000 in
theorem gX8_show_X6_setShown : GoodIn wsX8_show (wsV RX8 130 RX6 yX6_setShown wsX6_setShown) := goodIn_app (goodIn_of _ (by decide +kernel)) ggX8_show_X6_setShown
set_option maxRecDepth 20000 in
theorem ggX8_show_X5_countUnlike : GoodIn wsX8_show wsX5_countUnlike := goodIn_r _ [66, 67, 68, 69, 70, 71, 72, 65, 73, 74, 75, 76, 77, 78, 79, 80, 81, 82, 83, 41, 84, 43, 85, 86, 87, 21, 88, 23, 24, 89, 90, 91, 32, 92, 35, 93, 94, 95, 96, 97, 98, 99, 100, 36, 101, 102, 103, 104, 27, 105, 106, 107, 51, 108, 53, 109, 45, 46, 47, 110, 111, 112, 113, 54, 114, 115, 116, 117, 118, 119, 120, 121, 122, 123, 124, 125, 37, 126, 127, 128, 129, 130, 131, 132, 133, 134, 135, 136, 137, 138, 139, 140, 141, 142, 34, 143, 144, 145, 146, 147, 148, 149, 150, 151, 152, 55, 153, 154, 155, 156, 157, 158, 159, 160, 161, 162, 163, 164, 165, 166, 28, 167, 168, 169, 170, 171, 196, 197, 198, 199, 200, 201, 192, 182, 183, 184, 185, 186, 187, 188, 189, 190, 191, 193, 194, 195] (by decide +kernel) (by decide +kernel)
set_option maxRecDepth 20000 in
theorem gX8_show_X5_countUnlike : GoodIn wsX8_show (wsV RX8 134 RX5 yX5_countUnlike wsX5_countUnlike) := goodIn_app (goodIn_of _ (by decide +kernel)) ggX8_show_X5_countUnlike
theorem dX8_show_0 : decode cX8_show 0 = .ok (.iload_n 1, 1) := by decide +kernel
theorem dX8_show_1 : decode cX8_show 1 = .ok (.ifCond .lt 10, 3) := by decide +kernel
theorem dX8_show_4 : decode cX8_show 4 = .ok (.iload_n 1, 1) := by decide +kernel
theorem dX8_show_5 : decode cX8_show 5 = .ok (.sipush 255, 3) := by decide +kernel
theorem dX8_show_8 : decode cX8_show 8 = .ok (.if_icmp .le 6, 3) := by decide +kernel
theorem dX8_show_11 : decode cX8_show 11 = .ok (.bipush (-11), 2) := by decide +kernel
theorem dX8_show_13 : decode cX8_show 13 = .ok (.ireturn, 1) := by decide +kernel
theorem dX8_show_14 : decode cX8_show 14 = .ok (.aload_n 0, 1) := by decide +kernel
theorem dX8_show_15 : decode cX8_show 15 = .ok (.getfield 19, 3) := by decide +kernel
theorem dX8_show_18 : decode cX8_show 18 = .ok (.aload_n 0, 1) := by decide +kernel
theorem dX8_show_19 : decode cX8_show 19 = .ok (.getfield 12, 3) := by decide +kernel
theorem dX8_show_22 : decode cX8_show 22 = .ok (.invokevirtual 52, 3) := by decide +kernel
theorem dX8_show_25 : decode cX8_show 25 = .ok (.aload_n 0, 1) := by decide +kernel
theorem dX8_show_26 : decode cX8_show 26 = .ok (.getfield 12, 3) := by decide +kernel
theorem dX8_show_29 : decode cX8_show 29 = .ok (.iload_n 1, 1) := by decide +kernel
theorem dX8_show_30 : decode cX8_show 30 = .ok (.invokevirtual 130, 3) := by decide +kernel
theorem dX8_show_33 : decode cX8_show 33 = .ok (.aload_n 0, 1) := by decide +kernel
theorem dX8_show_34 : decode cX8_show 34 = .ok (.getfield 28, 3) := by decide +kernel
theorem dX8_show_37 : decode cX8_show 37 = .ok (.invokevirtual 134, 3) := by decide +kernel
theorem dX8_show_40 : decode cX8_show 40 = .ok (.ireturn, 1) := by decide +kernel
set_option maxRecDepth 20000 in
theorem ggX8_cellOf_X8_isCell : GoodIn wsX8_cellOf wsX8_isCell := goodIn_r _ [6, 1, 7, 8, 5, 9, 10, 11, 12, 13, 14, 15, 16, 17, 18, 19, 20, 21, 22, 70, 71, 72, 73, 74, 75, 76, 77, 78, 79, 80, 81, 82, 83, 84] (by decide +kernel) (by decide +kernel)
set_option maxRecDepth 20000 in
theorem gX8_cellOf_X8_isCell : GoodIn wsX8_cellOf (wsV RX8 94 RX8 yX8_isCell wsX8_isCell) := goodIn_app (goodIn_of _ (by decide +kernel)) ggX8_cellOf_X8_isCell
set_option maxRecDepth 20000 in
theorem ggX8_cellOf_X6_drawer : GoodIn wsX8_cellOf wsX6_drawer := goodIn_r _ [14, 15, 16, 75, 76, 77, 78, 79, 80] (by decide +kernel) (by decide +kernel)
set_option maxRecDepth 20000 in
theorem gX8_cellOf_X6_drawer : GoodIn wsX8_cellOf (wsV RX8 55 RX6 yX6_drawer wsX6_drawer) := goodIn_app (goodIn_of _ (by decide +kernel)) ggX8_cellOf_X6_drawer
set_option maxRecDepth 20000 in
theorem ggX8_cellOf_X0_example : GoodIn wsX8_cellOf wsX0_example := goodIn_r _ [26, 27, 81, 82, 83, 84] (by decide +kernel) (by decide +kernel)
set_option maxRecDepth 20000 in
theorem gX8_cellOf_X0_example : GoodIn wsX8_cellOf (wsV RX8 101 RX0 yX0_example wsX0_example) := goodIn_app (goodIn_of _ (by decide +kernel)) ggX8_cellOf_X0_example
set_option maxRecDepth 20000 in
theorem ggX8_cellOf_X1_kindAt : GoodIn wsX8_cellOf wsX1_kindAt := goodIn_r _ [32, 33, 34, 35, 36, 37, 38, 39, 85, 86, 87, 88] (by decide +kernel) (by decide +kernel)
set_option maxRecDepth 20000 in
theorem gX8_cellOf_X1_kindAt : GoodIn wsX8_cellOf (wsV RX8 105 RX1 yX1_kindAt wsX1_kindAt) := goodIn_app (goodIn_of _ (by decide +kernel)) ggX8_cellOf_X1_kindAt
set_option maxRecDepth 20000 in
theorem ggX8_cellOf_X1_firstAt : GoodIn wsX8_cellOf wsX1_firstAt := goodIn_r _ [43, 44, 34, 35, 36, 37, 38, 39, 85, 86, 87, 88] (by decide +kernel) (by decide +kernel)
set_option maxRecDepth 20000 in
theorem gX8_cellOf_X1_firstAt : GoodIn wsX8_cellOf (wsV RX8 137 RX1 yX1_firstAt wsX1_firstAt) := goodIn_app (goodIn_of _ (by decide +kernel)) ggX8_cellOf_X1_firstAt
set_option maxRecDepth 20000 in
theorem ggX8_cellOf_X1_secondAt : GoodIn wsX8_cellOf wsX1_secondAt := goodIn_r _ [48, 49, 34, 35, 36, 37, 38, 39, 85, 86, 87, 88] (by decide +kernel) (by decide +kernel)
set_option maxRecDepth 20000 in
theorem gX8_cellOf_X1_secondAt : GoodIn wsX8_cellOf (wsV RX8 140 RX1 yX1_secondAt wsX1_secondAt) := goodIn_app (goodIn_of _ (by decide +kernel)) ggX8_cellOf_X1_secondAt
set_option maxRecDepth 20000 in
theorem ggX8_cellOf_X0_countFitting : GoodIn wsX8_cellOf wsX0_countFitting := goodIn_r _ [53, 54, 27, 55, 56, 57, 20, 58, 59, 60, 61, 62, 63, 64, 18, 19, 21, 22, 65, 35, 36, 37, 38, 39, 66, 67, 68, 31, 69, 33, 44, 49, 34, 81, 82, 83, 84, 88, 85, 86, 87] (by decide +kernel) (by decide +kernel)
set_option maxRecDepth 20000 in
theorem gX8_cellOf_X0_countFitting : GoodIn wsX8_cellOf (wsV RX8 143 RX0 yX0_countFitting wsX0_countFitting) := goodIn_app (goodIn_of _ (by decide +kernel)) ggX8_cellOf_X0_countFitting
theorem dX8_cellOf_0 : decode cX8_cellOf 0 = .ok (.aload_n 0, 1) := by decide +kernel
theorem dX8_cellOf_1 : decode cX8_cellOf 1 = .ok (.iload_n 1, 1) := by decide +kernel
theorem dX8_cellOf_2 : decode cX8_cellOf 2 = .ok (.iload_n 2, 1) := by decide +kernel
theorem dX8_cellOf_3 : decode cX8_cellOf 3 = .ok (.invokevirtual 94, 3) := by decide +kernel
theorem dX8_cellOf_6 : decode cX8_cellOf 6 = .ok (.ifCond .eq 12, 3) := by decide +kernel
theorem dX8_cellOf_9 : decode cX8_cellOf 9 = .ok (.iload_n 3, 1) := by decide +kernel
theorem dX8_cellOf_10 : decode cX8_cellOf 10 = .ok (.ifCond .lt 8, 3) := by decide +kernel
theorem dX8_cellOf_13 : decode cX8_cellOf 13 = .ok (.iload_n 3, 1) := by decide +kernel
theorem dX8_cellOf_14 : decode cX8_cellOf 14 = .ok (.iconst 3, 1) := by decide +kernel
theorem dX8_cellOf_15 : decode cX8_cellOf 15 = .ok (.if_icmp .le 6, 3) := by decide +kernel
theorem dX8_cellOf_18 : decode cX8_cellOf 18 = .ok (.bipush (-11), 2) := by decide +kernel
theorem dX8_cellOf_20 : decode cX8_cellOf 20 = .ok (.ireturn, 1) := by decide +kernel
theorem dX8_cellOf_21 : decode cX8_cellOf 21 = .ok (.aload_n 0, 1) := by decide +kernel
theorem dX8_cellOf_22 : decode cX8_cellOf 22 = .ok (.getfield 12, 3) := by decide +kernel
theorem dX8_cellOf_25 : decode cX8_cellOf 25 = .ok (.iload_n 1, 1) := by decide +kernel
theorem dX8_cellOf_26 : decode cX8_cellOf 26 = .ok (.invokevirtual 55, 3) := by decide +kernel
theorem dX8_cellOf_29 : decode cX8_cellOf 29 = .ok (.astore 4, 2) := by decide +kernel
theorem dX8_cellOf_31 : decode cX8_cellOf 31 = .ok (.iload_n 3, 1) := by decide +kernel
theorem dX8_cellOf_32 : decode cX8_cellOf 32 = .ok (.tableswitch 58 0 2 #[28, 38, 48], 28) := by decide +kernel
theorem dX8_cellOf_60 : decode cX8_cellOf 60 = .ok (.aload 4, 2) := by decide +kernel
theorem dX8_cellOf_62 : decode cX8_cellOf 62 = .ok (.invokevirtual 101, 3) := by decide +kernel
theorem dX8_cellOf_65 : decode cX8_cellOf 65 = .ok (.iload_n 2, 1) := by decide +kernel
theorem dX8_cellOf_66 : decode cX8_cellOf 66 = .ok (.invokevirtual 105, 3) := by decide +kernel
theorem dX8_cellOf_69 : decode cX8_cellOf 69 = .ok (.ireturn, 1) := by decide +kernel
theorem dX8_cellOf_70 : decode cX8_cellOf 70 = .ok (.aload 4, 2) := by decide +kernel
theorem dX8_cellOf_72 : decode cX8_cellOf 72 = .ok (.invokevirtual 101, 3) := by decide +kernel
theorem dX8_cellOf_75 : decode cX8_cellOf 75 = .ok (.iload_n 2, 1) := by decide +kernel
theorem dX8_cellOf_76 : decode cX8_cellOf 76 = .ok (.invokevirtual 137, 3) := by decide +kernel
theorem dX8_cellOf_79 : decode cX8_cellOf 79 = .ok (.ireturn, 1) := by decide +kernel
theorem dX8_cellOf_80 : decode cX8_cellOf 80 = .ok (.aload 4, 2) := by decide +kernel
theorem dX8_cellOf_82 : decode cX8_cellOf 82 = .ok (.invokevirtual 101, 3) := by decide +kernel
theorem dX8_cellOf_85 : decode cX8_cellOf 85 = .ok (.iload_n 2, 1) := by decide +kernel
theorem dX8_cellOf_86 : decode cX8_cellOf 86 = .ok (.invokevirtual 140, 3) := by decide +kernel
theorem dX8_cellOf_89 : decode cX8_cellOf 89 = .ok (.ireturn, 1) := by decide +kernel
theorem dX8_cellOf_90 : decode cX8_cellOf 90 = .ok (.aload 4, 2) := by decide +kernel
theorem dX8_cellOf_92 : decode cX8_cellOf 92 = .ok (.iload_n 2, 1) := by decide +kernel
theorem dX8_cellOf_93 : decode cX8_cellOf 93 = .ok (.invokevirtual 143, 3) := by decide +kernel
theorem dX8_cellOf_96 : decode cX8_cellOf 96 = .ok (.ireturn, 1) := by decide +kernel
set_option maxRecDepth 20000 in
theorem ggX8_many_X5_find : GoodIn wsX8_many wsX5_find := goodIn_r _ [6, 7, 8, 9, 10, 11, 12, 5, 13, 14, 15, 16, 17, 18, 19, 20, 21, 22, 23, 24, 25, 26, 27, 28, 29, 30, 31, 32, 33, 34, 35, 36, 37, 38, 39, 40, 41, 42, 43, 44, 45, 46, 47, 48, 49, 50, 51, 52, 53, 54, 55, 56, 57, 58, 59, 60, 61, 62, 63, 64, 65, 66, 67, 68, 69, 70, 71, 72, 73, 74, 75, 76, 77, 78, 79, 80, 81, 82, 83, 84, 85, 86, 87, 88, 89, 90, 91, 92, 93, 94, 95, 96, 97, 98, 99, 100, 101, 102, 103, 104, 105, 106, 112, 113, 114, 115, 116, 117, 118, 119, 120, 121, 122, 123, 124, 125, 126, 127, 128, 129, 130, 131] (by decide +kernel) (by decide +kernel)
set_option maxRecDepth 20000 in
theorem gX8_many_X5_find : GoodIn wsX8_many (wsV RX8 127 RX5 yX5_find wsX5_find) := goodIn_app (goodIn_of _ (by decide +kernel)) ggX8_many_X5_find
theorem dX8_many_0 : decode cX8_many 0 = .ok (.aload_n 0, 1) := by decide +kernel
theorem dX8_many_1 : decode cX8_many 1 = .ok (.getfield 28, 3) := by decide +kernel
theorem dX8_many_4 : decode cX8_many 4 = .ok (.iconst (-1), 1) := by decide +kernel
theorem dX8_many_5 : decode cX8_many 5 = .ok (.invokevirtual 127, 3) := by decide +kernel
theorem dX8_many_8 : decode cX8_many 8 = .ok (.ireturn, 1) := by decide +kernel
set_option maxRecDepth 20000 in
theorem ggX8_row_X8_isAboutRow : GoodIn wsX8_row wsX8_isAboutRow := goodIn_r _ [6, 7, 8, 5, 9] (by decide +kernel) (by decide +kernel)
set_option maxRecDepth 20000 in
theorem gX8_row_X8_isAboutRow : GoodIn wsX8_row (va_wsS RX8 146 yX8_isAboutRow wsX8_isAboutRow) := goodIn_app (goodIn_of _ (by decide +kernel)) ggX8_row_X8_isAboutRow
set_option maxRecDepth 20000 in
theorem ggX8_row_X5_find : GoodIn wsX8_row wsX5_find := goodIn_r _ [14, 15, 16, 17, 18, 19, 20, 13, 21, 22, 23, 24, 25, 26, 27, 28, 29, 30, 31, 32, 33, 34, 35, 36, 37, 38, 39, 40, 41, 42, 43, 44, 45, 46, 47, 48, 49, 50, 51, 52, 53, 54, 55, 56, 57, 58, 59, 60, 61, 62, 63, 64, 65, 66, 67, 68, 69, 70, 71, 72, 73, 74, 75, 76, 77, 78, 79, 80, 81, 82, 83, 84, 85, 86, 87, 88, 89, 90, 91, 92, 93, 94, 95, 96, 97, 98, 99, 100, 101, 102, 103, 104, 105, 106, 107, 108, 109, 110, 111, 112, 113, 114, 150, 151, 152, 153, 154, 155, 156, 157, 158, 159, 160, 161, 162, 163, 164, 165, 166, 167, 168, 169] (by decide +kernel) (by decide +kernel)
set_option maxRecDepth 20000 in
theorem gX8_row_X5_find : GoodIn wsX8_row (wsV RX8 127 RX5 yX5_find wsX5_find) := goodIn_app (goodIn_of _ (by decide +kernel)) ggX8_row_X5_find
set_option maxRecDepth 20000 in
theorem ggX8_row_X5_inOrder : GoodIn wsX8_row wsX5_inOrder := goodIn_r _ [118, 15, 17, 114, 64, 65, 27, 66, 29, 119, 120, 121, 13, 122, 123, 124, 125, 126, 16, 127, 128, 129, 33, 130, 131, 132, 43, 44, 45, 46, 35, 36, 47, 48, 49, 40, 50, 51, 52, 53, 54, 55, 56, 94, 95, 96, 97, 98, 99, 100, 101, 102, 103, 104, 105, 106, 84, 107, 108, 133, 134, 135, 136, 137, 72, 73, 74, 75, 150, 151, 152, 153, 154, 155, 156, 157, 158, 159, 160, 161, 162, 163, 164, 165, 166] (by decide +kernel) (by decide +kernel)
set_option maxRecDepth 20000 in
theorem gX8_row_X5_inOrder : GoodIn wsX8_row (wsV RX8 149 RX5 yX5_inOrder wsX5_inOrder) := goodIn_app (goodIn_of _ (by decide +kernel)) ggX8_row_X5_inOrder
set_option maxRecDepth 20000 in
theorem ggX8_row_X6_isOfBoth : GoodIn wsX8_row wsX6_isOfBoth := goodIn_r _ [55, 56, 157, 158, 159, 160, 161, 162] (by decide +kernel) (by decide +kernel)
set_option maxRecDepth 20000 in
theorem gX8_row_X6_isOfBoth : GoodIn wsX8_row (wsV RX8 152 RX6 yX6_isOfBoth wsX6_isOfBoth) := goodIn_app (goodIn_of _ (by decide +kernel)) ggX8_row_X6_isOfBoth
set_option maxRecDepth 20000 in
theorem ggX8_row_X5_tellerOf : GoodIn wsX8_row wsX5_tellerOf := goodIn_r _ [142, 23, 114, 64, 65, 27, 66, 29, 150, 151, 152, 153, 154, 155, 156] (by decide +kernel) (by decide +kernel)
set_option maxRecDepth 20000 in
theorem gX8_row_X5_tellerOf : GoodIn wsX8_row (wsV RX8 156 RX5 yX5_tellerOf wsX5_tellerOf) := goodIn_app (goodIn_of _ (by decide +kernel)) ggX8_row_X5_tellerOf
set_option maxRecDepth 20000 in
theorem ggX8_row_X6_isAsked : GoodIn wsX8_row wsX6_isAsked := goodIn_r _ [46, 35, 36, 47, 48, 49, 40, 50, 51, 52, 53, 54, 33, 55, 56, 157, 158, 159, 160, 161, 162, 163, 164, 165, 166] (by decide +kernel) (by decide +kernel)
set_option maxRecDepth 20000 in
theorem gX8_row_X6_isAsked : GoodIn wsX8_row (wsV RX8 159 RX6 yX6_isAsked wsX6_isAsked) := goodIn_app (goodIn_of _ (by decide +kernel)) ggX8_row_X6_isAsked
set_option maxRecDepth 20000 in
theorem ggX8_row_X6_entry : GoodIn wsX8_row wsX6_entry := goodIn_r _ [97, 35, 36, 98, 99, 100, 40, 101, 102, 103, 104, 105, 106, 84, 107, 48, 49, 50, 51, 108, 64, 65, 27, 66, 29, 157, 158, 159, 160, 161, 162, 163, 164, 165, 166, 156] (by decide +kernel) (by decide +kernel)
set_option maxRecDepth 20000 in
theorem gX8_row_X6_entry : GoodIn wsX8_row (wsV RX8 162 RX6 yX6_entry wsX6_entry) := goodIn_app (goodIn_of _ (by decide +kernel)) ggX8_row_X6_entry
theorem dX8_row_0 : decode cX8_row 0 = .ok (.iload_n 1, 1) := by decide +kernel
theorem dX8_row_1 : decode cX8_row 1 = .ok (.ifCond .lt 10, 3) := by decide +kernel
theorem dX8_row_4 : decode cX8_row 4 = .ok (.iload_n 2, 1) := by decide +kernel
theorem dX8_row_5 : decode cX8_row 5 = .ok (.invokestatic 146, 3) := by decide +kernel
theorem dX8_row_8 : decode cX8_row 8 = .ok (.ifCond .ne 6, 3) := by decide +kernel
theorem dX8_row_11 : decode cX8_row 11 = .ok (.bipush (-11), 2) := by decide +kernel
theorem dX8_row_13 : decode cX8_row 13 = .ok (.ireturn, 1) := by decide +kernel
theorem dX8_row_14 : decode cX8_row 14 = .ok (.iload_n 1, 1) := by decide +kernel
theorem dX8_row_15 : decode cX8_row 15 = .ok (.aload_n 0, 1) := by decide +kernel
theorem dX8_row_16 : decode cX8_row 16 = .ok (.getfield 28, 3) := by decide +kernel
theorem dX8_row_19 : decode cX8_row 19 = .ok (.iconst (-1), 1) := by decide +kernel
theorem dX8_row_20 : decode cX8_row 20 = .ok (.invokevirtual 127, 3) := by decide +kernel
theorem dX8_row_23 : decode cX8_row 23 = .ok (.if_icmp .lt 6, 3) := by decide +kernel
theorem dX8_row_26 : decode cX8_row 26 = .ok (.bipush (-14), 2) := by decide +kernel
theorem dX8_row_28 : decode cX8_row 28 = .ok (.ireturn, 1) := by decide +kernel
theorem dX8_row_29 : decode cX8_row 29 = .ok (.aload_n 0, 1) := by decide +kernel
theorem dX8_row_30 : decode cX8_row 30 = .ok (.getfield 28, 3) := by decide +kernel
theorem dX8_row_33 : decode cX8_row 33 = .ok (.iload_n 1, 1) := by decide +kernel
theorem dX8_row_34 : decode cX8_row 34 = .ok (.invokevirtual 149, 3) := by decide +kernel
theorem dX8_row_37 : decode cX8_row 37 = .ok (.istore_n 3, 1) := by decide +kernel
theorem dX8_row_38 : decode cX8_row 38 = .ok (.iload_n 2, 1) := by decide +kernel
theorem dX8_row_39 : decode cX8_row 39 = .ok (.ifCond .ne 8, 3) := by decide +kernel
theorem dX8_row_42 : decode cX8_row 42 = .ok (.iload_n 3, 1) := by decide +kernel
theorem dX8_row_43 : decode cX8_row 43 = .ok (.bipush 12, 2) := by decide +kernel
theorem dX8_row_45 : decode cX8_row 45 = .ok (.idiv, 1) := by decide +kernel
theorem dX8_row_46 : decode cX8_row 46 = .ok (.ireturn, 1) := by decide +kernel
theorem dX8_row_47 : decode cX8_row 47 = .ok (.iload_n 2, 1) := by decide +kernel
theorem dX8_row_48 : decode cX8_row 48 = .ok (.iconst 1, 1) := by decide +kernel
theorem dX8_row_49 : decode cX8_row 49 = .ok (.if_icmp .ne 23, 3) := by decide +kernel
theorem dX8_row_52 : decode cX8_row 52 = .ok (.aload_n 0, 1) := by decide +kernel
theorem dX8_row_53 : decode cX8_row 53 = .ok (.getfield 12, 3) := by decide +kernel
theorem dX8_row_56 : decode cX8_row 56 = .ok (.invokevirtual 152, 3) := by decide +kernel
theorem dX8_row_59 : decode cX8_row 59 = .ok (.ifCond .eq 10, 3) := by decide +kernel
theorem dX8_row_62 : decode cX8_row 62 = .ok (.iload_n 3, 1) := by decide +kernel
theorem dX8_row_63 : decode cX8_row 63 = .ok (.bipush 12, 2) := by decide +kernel
theorem dX8_row_65 : decode cX8_row 65 = .ok (.irem, 1) := by decide +kernel
theorem dX8_row_66 : decode cX8_row 66 = .ok (.goto 5, 3) := by decide +kernel
theorem dX8_row_69 : decode cX8_row 69 = .ok (.bipush (-14), 2) := by decide +kernel
theorem dX8_row_71 : decode cX8_row 71 = .ok (.ireturn, 1) := by decide +kernel
theorem dX8_row_72 : decode cX8_row 72 = .ok (.iload_n 2, 1) := by decide +kernel
theorem dX8_row_73 : decode cX8_row 73 = .ok (.bipush 20, 2) := by decide +kernel
theorem dX8_row_75 : decode cX8_row 75 = .ok (.if_icmp .ge 10, 3) := by decide +kernel
theorem dX8_row_78 : decode cX8_row 78 = .ok (.iload_n 2, 1) := by decide +kernel
theorem dX8_row_79 : decode cX8_row 79 = .ok (.bipush 10, 2) := by decide +kernel
theorem dX8_row_81 : decode cX8_row 81 = .ok (.isub, 1) := by decide +kernel
theorem dX8_row_82 : decode cX8_row 82 = .ok (.goto 14, 3) := by decide +kernel
theorem dX8_row_85 : decode cX8_row 85 = .ok (.aload_n 0, 1) := by decide +kernel
theorem dX8_row_86 : decode cX8_row 86 = .ok (.getfield 28, 3) := by decide +kernel
theorem dX8_row_89 : decode cX8_row 89 = .ok (.iload_n 2, 1) := by decide +kernel
theorem dX8_row_90 : decode cX8_row 90 = .ok (.bipush 20, 2) := by decide +kernel
theorem dX8_row_92 : decode cX8_row 92 = .ok (.isub, 1) := by decide +kernel
theorem dX8_row_93 : decode cX8_row 93 = .ok (.invokevirtual 156, 3) := by decide +kernel
theorem dX8_row_96 : decode cX8_row 96 = .ok (.istore 4, 2) := by decide +kernel
theorem dX8_row_98 : decode cX8_row 98 = .ok (.aload_n 0, 1) := by decide +kernel
theorem dX8_row_99 : decode cX8_row 99 = .ok (.getfield 12, 3) := by decide +kernel
theorem dX8_row_102 : decode cX8_row 102 = .ok (.iload 4, 2) := by decide +kernel
theorem dX8_row_104 : decode cX8_row 104 = .ok (.invokevirtual 159, 3) := by decide +kernel
theorem dX8_row_107 : decode cX8_row 107 = .ok (.ifCond .eq 16, 3) := by decide +kernel
theorem dX8_row_110 : decode cX8_row 110 = .ok (.aload_n 0, 1) := by decide +kernel
theorem dX8_row_111 : decode cX8_row 111 = .ok (.getfield 12, 3) := by decide +kernel
theorem dX8_row_114 : decode cX8_row 114 = .ok (.iload 4, 2) := by decide +kernel
theorem dX8_row_116 : decode cX8_row 116 = .ok (.iload_n 3, 1) := by decide +kernel
theorem dX8_row_117 : decode cX8_row 117 = .ok (.invokevirtual 162, 3) := by decide +kernel
theorem dX8_row_120 : decode cX8_row 120 = .ok (.goto 5, 3) := by decide +kernel
theorem dX8_row_123 : decode cX8_row 123 = .ok (.bipush (-14), 2) := by decide +kernel
theorem dX8_row_125 : decode cX8_row 125 = .ok (.ireturn, 1) := by decide +kernel
set_option maxRecDepth 20000 in
theorem ggX8_total_X6_isAsked : GoodIn wsX8_total wsX6_isAsked := goodIn_r _ [7, 8, 9, 10, 11, 12, 13, 14, 15, 16, 17, 18, 6, 19, 20, 130, 131, 132, 133, 134, 135, 136, 137, 138, 139] (by decide +kernel) (by decide +kernel)
set_option maxRecDepth 20000 in
theorem gX8_total_X6_isAsked : GoodIn wsX8_total (wsV RX8 159 RX6 yX6_isAsked wsX6_isAsked) := goodIn_app (goodIn_of _ (by decide +kernel)) ggX8_total_X6_isAsked
set_option maxRecDepth 20000 in
theorem ggX8_total_X5_sumUp : GoodIn wsX8_total wsX5_sumUp := goodIn_r _ [25, 26, 27, 28, 29, 30, 31, 32, 33, 34, 35, 36, 37, 38, 39, 24, 40, 41, 42, 43, 44, 45, 46, 47, 48, 49, 50, 51, 52, 53, 54, 55, 6, 56, 8, 9, 57, 58, 59, 13, 60, 61, 62, 4, 5, 7, 10, 11, 12, 14, 15, 16, 17, 18, 19, 20, 63, 64, 65, 66, 67, 68, 69, 70, 71, 72, 73, 74, 75, 76, 77, 78, 79, 80, 81, 82, 83, 84, 85, 86, 87, 88, 89, 90, 91, 92, 93, 94, 95, 96, 97, 98, 99, 100, 101, 102, 103, 104, 105, 106, 107, 108, 109, 110, 111, 112, 113, 114, 115, 116, 117, 118, 119, 120, 121, 122, 123, 124, 140, 141, 142, 143, 144, 145, 146, 130, 131, 132, 133, 134, 135, 136, 137, 138, 139, 147, 148, 149] (by decide +kernel) (by decide +kernel)
set_option maxRecDepth 20000 in
theorem gX8_total_X5_sumUp : GoodIn wsX8_total (wsV RX8 163 RX5 yX5_sumUp wsX5_sumUp) := goodIn_app (goodIn_of _ (by decide +kernel)) ggX8_total_X5_sumUp
theorem dX8_total_0 : decode cX8_total 0 = .ok (.iload_n 1, 1) := by decide +kernel
theorem dX8_total_1 : decode cX8_total 1 = .ok (.ifCond .lt 18, 3) := by decide +kernel
theorem dX8_total_4 : decode cX8_total 4 = .ok (.iload_n 1, 1) := by decide +kernel
theorem dX8_total_5 : decode cX8_total 5 = .ok (.bipush 8, 2) := by decide +kernel
theorem dX8_total_7 : decode cX8_total 7 = .ok (.if_icmp .ge 12, 3) := by decide +kernel
theorem dX8_total_10 : decode cX8_total 10 = .ok (.iload_n 2, 1) := by decide +kernel
theorem dX8_total_11 : decode cX8_total 11 = .ok (.ifCond .lt 8, 3) := by decide +kernel
theorem dX8_total_14 : decode cX8_total 14 = .ok (.iload_n 2, 1) := by decide +kernel
theorem dX8_total_15 : decode cX8_total 15 = .ok (.iconst 4, 1) := by decide +kernel
theorem dX8_total_16 : decode cX8_total 16 = .ok (.if_icmp .le 6, 3) := by decide +kernel
theorem dX8_total_19 : decode cX8_total 19 = .ok (.bipush (-11), 2) := by decide +kernel
theorem dX8_total_21 : decode cX8_total 21 = .ok (.ireturn, 1) := by decide +kernel
theorem dX8_total_22 : decode cX8_total 22 = .ok (.aload_n 0, 1) := by decide +kernel
theorem dX8_total_23 : decode cX8_total 23 = .ok (.getfield 12, 3) := by decide +kernel
theorem dX8_total_26 : decode cX8_total 26 = .ok (.iload_n 1, 1) := by decide +kernel
theorem dX8_total_27 : decode cX8_total 27 = .ok (.invokevirtual 159, 3) := by decide +kernel
theorem dX8_total_30 : decode cX8_total 30 = .ok (.ifCond .eq 15, 3) := by decide +kernel
theorem dX8_total_33 : decode cX8_total 33 = .ok (.aload_n 0, 1) := by decide +kernel
theorem dX8_total_34 : decode cX8_total 34 = .ok (.getfield 28, 3) := by decide +kernel
theorem dX8_total_37 : decode cX8_total 37 = .ok (.iload_n 1, 1) := by decide +kernel
theorem dX8_total_38 : decode cX8_total 38 = .ok (.iload_n 2, 1) := by decide +kernel
theorem dX8_total_39 : decode cX8_total 39 = .ok (.invokevirtual 163, 3) := by decide +kernel
theorem dX8_total_42 : decode cX8_total 42 = .ok (.goto 5, 3) := by decide +kernel
theorem dX8_total_45 : decode cX8_total 45 = .ok (.bipush (-14), 2) := by decide +kernel
theorem dX8_total_47 : decode cX8_total 47 = .ok (.ireturn, 1) := by decide +kernel
set_option maxRecDepth 20000 in
theorem ggX8_unlike_X5_countUnlike : GoodIn wsX8_unlike wsX5_countUnlike := goodIn_r _ [6, 7, 8, 9, 10, 11, 12, 5, 13, 14, 15, 16, 17, 18, 19, 20, 21, 22, 23, 24, 25, 26, 27, 28, 29, 30, 31, 32, 33, 34, 35, 36, 37, 38, 39, 40, 41, 42, 43, 44, 45, 46, 47, 48, 49, 50, 51, 52, 53, 54, 55, 56, 57, 58, 59, 60, 61, 62, 63, 64, 65, 66, 67, 68, 69, 70, 71, 72, 73, 74, 75, 76, 77, 78, 79, 80, 81, 82, 83, 84, 85, 86, 87, 88, 89, 90, 91, 92, 93, 94, 95, 96, 97, 98, 99, 100, 101, 102, 103, 104, 105, 106, 107, 108, 109, 110, 111, 112, 113, 114, 115, 116, 117, 118, 119, 120, 121, 122, 123, 124, 125, 126, 127, 128, 129, 130, 136, 137, 138, 139, 140, 141, 142, 143, 144, 145, 146, 147, 148, 149, 150, 151, 152, 153, 154, 155] (by decide +kernel) (by decide +kernel)
set_option maxRecDepth 20000 in
theorem gX8_unlike_X5_countUnlike : GoodIn wsX8_unlike (wsV RX8 134 RX5 yX5_countUnlike wsX5_countUnlike) := goodIn_app (goodIn_of _ (by decide +kernel)) ggX8_unlike_X5_countUnlike
theorem dX8_unlike_0 : decode cX8_unlike 0 = .ok (.aload_n 0, 1) := by decide +kernel
theorem dX8_unlike_1 : decode cX8_unlike 1 = .ok (.getfield 28, 3) := by decide +kernel
theorem dX8_unlike_4 : decode cX8_unlike 4 = .ok (.invokevirtual 134, 3) := by decide +kernel
theorem dX8_unlike_7 : decode cX8_unlike 7 = .ok (.ireturn, 1) := by decide +kernel
set_option maxRecDepth 20000 in
theorem ggX8_cards_X8_isBit : GoodIn wsX8_cards wsX8_isBit := goodIn_r _ [6] (by decide +kernel) (by decide +kernel)
set_option maxRecDepth 20000 in
theorem gX8_cards_X8_isBit : GoodIn wsX8_cards (va_wsS RX8 48 yX8_isBit wsX8_isBit) := goodIn_app (goodIn_of _ (by decide +kernel)) ggX8_cards_X8_isBit
set_option maxRecDepth 20000 in
theorem ggX8_cards_X6_isOfBoth : GoodIn wsX8_cards wsX6_isOfBoth := goodIn_r _ [11, 12, 122, 123, 124, 125, 126, 127] (by decide +kernel) (by decide +kernel)
set_option maxRecDepth 20000 in
theorem gX8_cards_X6_isOfBoth : GoodIn wsX8_cards (wsV RX8 152 RX6 yX6_isOfBoth wsX6_isOfBoth) := goodIn_app (goodIn_of _ (by decide +kernel)) ggX8_cards_X6_isOfBoth
set_option maxRecDepth 20000 in
theorem ggX8_cards_X5_cardSet : GoodIn wsX8_cards wsX5_cardSet := goodIn_r _ [17, 18, 19, 20, 21, 22, 16, 23, 24, 25, 26, 27, 28, 29, 30, 31, 32, 33, 34, 35, 36, 37, 38, 39, 10, 40, 41, 42, 43, 44, 45, 46, 47, 48, 49, 50, 51, 52, 53, 54, 55, 56, 57, 58, 8, 9, 11, 12, 59, 60, 61, 62, 63, 64, 65, 66, 67, 68, 69, 70, 71, 72, 73, 74, 75, 76, 77, 78, 79, 80, 81, 82, 83, 84, 85, 86, 87, 88, 89, 90, 91, 92, 93, 94, 95, 96, 97, 98, 99, 100, 101, 102, 103, 104, 105, 106, 107, 108, 109, 110, 111, 112, 113, 114, 115, 116, 128, 129, 130, 131, 132, 133, 134, 122, 123, 124, 125, 126, 127, 135, 136, 137, 138, 139, 140, 141] (by decide +kernel) (by decide +kernel)
set_option maxRecDepth 20000 in
theorem gX8_cards_X5_cardSet : GoodIn wsX8_cards (wsV RX8 166 RX5 yX5_cardSet wsX5_cardSet) := goodIn_app (goodIn_of _ (by decide +kernel)) ggX8_cards_X5_cardSet
theorem dX8_cards_0 : decode cX8_cards 0 = .ok (.iload_n 1, 1) := by decide +kernel
theorem dX8_cards_1 : decode cX8_cards 1 = .ok (.invokestatic 48, 3) := by decide +kernel
theorem dX8_cards_4 : decode cX8_cards 4 = .ok (.ifCond .ne 6, 3) := by decide +kernel
theorem dX8_cards_7 : decode cX8_cards 7 = .ok (.bipush (-11), 2) := by decide +kernel
theorem dX8_cards_9 : decode cX8_cards 9 = .ok (.ireturn, 1) := by decide +kernel
theorem dX8_cards_10 : decode cX8_cards 10 = .ok (.iload_n 1, 1) := by decide +kernel
theorem dX8_cards_11 : decode cX8_cards 11 = .ok (.iconst 1, 1) := by decide +kernel
theorem dX8_cards_12 : decode cX8_cards 12 = .ok (.if_icmp .ne 16, 3) := by decide +kernel
theorem dX8_cards_15 : decode cX8_cards 15 = .ok (.aload_n 0, 1) := by decide +kernel
theorem dX8_cards_16 : decode cX8_cards 16 = .ok (.getfield 12, 3) := by decide +kernel
theorem dX8_cards_19 : decode cX8_cards 19 = .ok (.invokevirtual 152, 3) := by decide +kernel
theorem dX8_cards_22 : decode cX8_cards 22 = .ok (.ifCond .ne 6, 3) := by decide +kernel
theorem dX8_cards_25 : decode cX8_cards 25 = .ok (.bipush (-12), 2) := by decide +kernel
theorem dX8_cards_27 : decode cX8_cards 27 = .ok (.ireturn, 1) := by decide +kernel
theorem dX8_cards_28 : decode cX8_cards 28 = .ok (.aload_n 0, 1) := by decide +kernel
theorem dX8_cards_29 : decode cX8_cards 29 = .ok (.getfield 28, 3) := by decide +kernel
theorem dX8_cards_32 : decode cX8_cards 32 = .ok (.iload_n 1, 1) := by decide +kernel
theorem dX8_cards_33 : decode cX8_cards 33 = .ok (.invokevirtual 166, 3) := by decide +kernel
theorem dX8_cards_36 : decode cX8_cards 36 = .ok (.ireturn, 1) := by decide +kernel
set_option maxRecDepth 20000 in
theorem ggX8_why_X6_isOfBoth : GoodIn wsX8_why wsX6_isOfBoth := goodIn_r _ [7, 8, 108, 109, 110, 111, 112, 113] (by decide +kernel) (by decide +kernel)
set_option maxRecDepth 20000 in
theorem gX8_why_X6_isOfBoth : GoodIn wsX8_why (wsV RX8 152 RX6 yX6_isOfBoth wsX6_isOfBoth) := goodIn_app (goodIn_of _ (by decide +kernel)) ggX8_why_X6_isOfBoth
set_option maxRecDepth 20000 in
theorem ggX8_why_X6_drawer : GoodIn wsX8_why wsX6_drawer := goodIn_r _ [12, 13, 14, 108, 109, 110, 111, 112, 113] (by decide +kernel) (by decide +kernel)
set_option maxRecDepth 20000 in
theorem gX8_why_X6_drawer : GoodIn wsX8_why (wsV RX8 55 RX6 yX6_drawer wsX6_drawer) := goodIn_app (goodIn_of _ (by decide +kernel)) ggX8_why_X6_drawer
set_option maxRecDepth 20000 in
theorem ggX8_why_X0_hasCard : GoodIn wsX8_why wsX0_hasCard := goodIn_r _ [19, 20, 114, 115, 116, 117] (by decide +kernel) (by decide +kernel)
set_option maxRecDepth 20000 in
theorem gX8_why_X0_hasCard : GoodIn wsX8_why (wsV RX8 84 RX0 yX0_hasCard wsX0_hasCard) := goodIn_app (goodIn_of _ (by decide +kernel)) ggX8_why_X0_hasCard
set_option maxRecDepth 20000 in
theorem ggX8_why_X5_explain : GoodIn wsX8_why wsX5_explain := goodIn_r _ [25, 26, 27, 28, 24, 29, 30, 31, 32, 33, 34, 35, 36, 37, 38, 39, 40, 41, 6, 42, 13, 14, 43, 44, 45, 18, 46, 47, 48, 49, 50, 51, 52, 53, 54, 55, 56, 57, 4, 5, 7, 8, 58, 59, 60, 61, 62, 63, 64, 65, 66, 67, 68, 69, 70, 71, 72, 73, 74, 75, 76, 77, 78, 79, 80, 81, 82, 83, 84, 85, 86, 87, 88, 89, 90, 91, 92, 93, 94, 16, 17, 19, 20, 95, 96, 97, 98, 99, 100, 101, 102, 118, 119, 120, 121, 122, 123, 124, 108, 109, 110, 111, 112, 113, 114, 115, 116, 117, 125, 126, 127] (by decide +kernel) (by decide +kernel)
set_option maxRecDepth 20000 in
theorem gX8_why_X5_explain : GoodIn wsX8_why (wsV RX8 169 RX5 yX5_explain wsX5_explain) := goodIn_app (goodIn_of _ (by decide +kernel)) ggX8_why_X5_explain
