set_option maxRecDepth 20000 in
theorem ggX0_init_X3_init : GoodIn wsX0_init wsX3_init := goodIn_r _ [16, 17, 2, 3, 18, 19, 20, 21, 22, 23, 24, 25, 26, 6, 27, 36] (by decide +kernel) (by decide +kernel)
set_option maxRecDepth 20000 in
theorem gX0_init_X3_init : GoodIn wsX0_init (wsX3_init) := ggX0_init_X3_init
set_option maxRecDepth 20000 in
theorem ggX0_init_X1_init : GoodIn wsX0_init wsX1_init := goodIn_r _ [29, 30, 2, 3, 31, 5, 6, 32, 33, 34, 35, 15, 16, 17, 18, 19, 20, 21, 22, 23, 24, 25, 26, 27, 36, 41, 42, 43] (by decide +kernel) (by decide +kernel)
set_option maxRecDepth 20000 in
theorem gX0_init_X1_init_n22 : GoodIn wsX0_init (wsX1_init) := ggX0_init_X1_init
theorem dX0_init_0 : decode cX0_init 0 = .ok (.aload_n 0, 1) := by decide +kernel
theorem dX0_init_1 : decode cX0_init 1 = .ok (.invokespecial 3, 3) := by decide +kernel
theorem dX0_init_4 : decode cX0_init 4 = .ok (.aload_n 0, 1) := by decide +kernel
theorem dX0_init_5 : decode cX0_init 5 = .ok (.new 9, 3) := by decide +kernel
theorem dX0_init_8 : decode cX0_init 8 = .ok (.dup, 1) := by decide +kernel
theorem dX0_init_9 : decode cX0_init 9 = .ok (.bipush 48, 2) := by decide +kernel
theorem dX0_init_11 : decode cX0_init 11 = .ok (.iconst (-1), 1) := by decide +kernel
theorem dX0_init_12 : decode cX0_init 12 = .ok (.invokespecial 11, 3) := by decide +kernel
theorem dX0_init_15 : decode cX0_init 15 = .ok (.putfield 14, 3) := by decide +kernel
theorem dX0_init_18 : decode cX0_init 18 = .ok (.aload_n 0, 1) := by decide +kernel
theorem dX0_init_19 : decode cX0_init 19 = .ok (.new 20, 3) := by decide +kernel
theorem dX0_init_22 : decode cX0_init 22 = .ok (.dup, 1) := by decide +kernel
theorem dX0_init_23 : decode cX0_init 23 = .ok (.invokespecial 22, 3) := by decide +kernel
theorem dX0_init_26 : decode cX0_init 26 = .ok (.putfield 23, 3) := by decide +kernel
theorem dX0_init_29 : decode cX0_init 29 = .ok (.aload_n 0, 1) := by decide +kernel
theorem dX0_init_30 : decode cX0_init 30 = .ok (.iconst 3, 1) := by decide +kernel
theorem dX0_init_31 : decode cX0_init 31 = .ok (.putfield 27, 3) := by decide +kernel
theorem dX0_init_34 : decode cX0_init 34 = .ok (.aload_n 0, 1) := by decide +kernel
theorem dX0_init_35 : decode cX0_init 35 = .ok (.iconst 0, 1) := by decide +kernel
theorem dX0_init_36 : decode cX0_init 36 = .ok (.putfield 31, 3) := by decide +kernel
theorem dX0_init_39 : decode cX0_init 39 = .ok (.return_, 1) := by decide +kernel
theorem dX0_width_0 : decode cX0_width 0 = .ok (.aload_n 0, 1) := by decide +kernel
theorem dX0_width_1 : decode cX0_width 1 = .ok (.getfield 27, 3) := by decide +kernel
theorem dX0_width_4 : decode cX0_width 4 = .ok (.ireturn, 1) := by decide +kernel
theorem dX0_size_0 : decode cX0_size 0 = .ok (.aload_n 0, 1) := by decide +kernel
theorem dX0_size_1 : decode cX0_size 1 = .ok (.getfield 31, 3) := by decide +kernel
theorem dX0_size_4 : decode cX0_size 4 = .ok (.ireturn, 1) := by decide +kernel
theorem dX0_example_0 : decode cX0_example 0 = .ok (.aload_n 0, 1) := by decide +kernel
theorem dX0_example_1 : decode cX0_example 1 = .ok (.getfield 23, 3) := by decide +kernel
theorem dX0_example_4 : decode cX0_example 4 = .ok (.areturn, 1) := by decide +kernel
theorem dX0_hasColumn_0 : decode cX0_hasColumn 0 = .ok (.iload_n 1, 1) := by decide +kernel
theorem dX0_hasColumn_1 : decode cX0_hasColumn 1 = .ok (.ifCond .lt 15, 3) := by decide +kernel
theorem dX0_hasColumn_4 : decode cX0_hasColumn 4 = .ok (.iload_n 1, 1) := by decide +kernel
theorem dX0_hasColumn_5 : decode cX0_hasColumn 5 = .ok (.aload_n 0, 1) := by decide +kernel
theorem dX0_hasColumn_6 : decode cX0_hasColumn 6 = .ok (.getfield 27, 3) := by decide +kernel
theorem dX0_hasColumn_9 : decode cX0_hasColumn 9 = .ok (.if_icmp .ge 7, 3) := by decide +kernel
theorem dX0_hasColumn_12 : decode cX0_hasColumn 12 = .ok (.iconst 1, 1) := by decide +kernel
theorem dX0_hasColumn_13 : decode cX0_hasColumn 13 = .ok (.goto 4, 3) := by decide +kernel
theorem dX0_hasColumn_16 : decode cX0_hasColumn 16 = .ok (.iconst 0, 1) := by decide +kernel
theorem dX0_hasColumn_17 : decode cX0_hasColumn 17 = .ok (.ireturn, 1) := by decide +kernel
theorem dX0_hasCard_0 : decode cX0_hasCard 0 = .ok (.iload_n 1, 1) := by decide +kernel
theorem dX0_hasCard_1 : decode cX0_hasCard 1 = .ok (.ifCond .lt 15, 3) := by decide +kernel
theorem dX0_hasCard_4 : decode cX0_hasCard 4 = .ok (.iload_n 1, 1) := by decide +kernel
theorem dX0_hasCard_5 : decode cX0_hasCard 5 = .ok (.aload_n 0, 1) := by decide +kernel
theorem dX0_hasCard_6 : decode cX0_hasCard 6 = .ok (.getfield 31, 3) := by decide +kernel
theorem dX0_hasCard_9 : decode cX0_hasCard 9 = .ok (.if_icmp .ge 7, 3) := by decide +kernel
theorem dX0_hasCard_12 : decode cX0_hasCard 12 = .ok (.iconst 1, 1) := by decide +kernel
theorem dX0_hasCard_13 : decode cX0_hasCard 13 = .ok (.goto 4, 3) := by decide +kernel
theorem dX0_hasCard_16 : decode cX0_hasCard 16 = .ok (.iconst 0, 1) := by decide +kernel
theorem dX0_hasCard_17 : decode cX0_hasCard 17 = .ok (.ireturn, 1) := by decide +kernel
set_option maxRecDepth 20000 in
theorem ggX0_entry_X0_hasCard : GoodIn wsX0_entry wsX0_hasCard := goodIn_r _ [6, 7, 19, 20, 21, 22] (by decide +kernel) (by decide +kernel)
set_option maxRecDepth 20000 in
theorem gX0_entry_X0_hasCard : GoodIn wsX0_entry (wsV RX0 34 RX0 yX0_hasCard wsX0_hasCard) := goodIn_app (goodIn_of _ (by decide +kernel)) ggX0_entry_X0_hasCard
set_option maxRecDepth 20000 in
theorem ggX0_entry_X0_hasColumn : GoodIn wsX0_entry wsX0_hasColumn := goodIn_r _ [11, 12, 19, 20, 21, 22] (by decide +kernel) (by decide +kernel)
set_option maxRecDepth 20000 in
theorem gX0_entry_X0_hasColumn : GoodIn wsX0_entry (wsV RX0 38 RX0 yX0_hasColumn wsX0_hasColumn) := goodIn_app (goodIn_of _ (by decide +kernel)) ggX0_entry_X0_hasColumn
set_option maxRecDepth 20000 in
theorem ggX0_entry_X3_at : GoodIn wsX0_entry wsX3_at := goodIn_r _ [17, 18, 23] (by decide +kernel) (by decide +kernel)
set_option maxRecDepth 20000 in
theorem gX0_entry_X3_at : GoodIn wsX0_entry (wsV RX0 41 RX3 yX3_at wsX3_at) := goodIn_app (goodIn_of _ (by decide +kernel)) ggX0_entry_X3_at
theorem dX0_entry_0 : decode cX0_entry 0 = .ok (.aload_n 0, 1) := by decide +kernel
theorem dX0_entry_1 : decode cX0_entry 1 = .ok (.iload_n 1, 1) := by decide +kernel
theorem dX0_entry_2 : decode cX0_entry 2 = .ok (.invokevirtual 34, 3) := by decide +kernel
theorem dX0_entry_5 : decode cX0_entry 5 = .ok (.ifCond .eq 11, 3) := by decide +kernel
theorem dX0_entry_8 : decode cX0_entry 8 = .ok (.aload_n 0, 1) := by decide +kernel
theorem dX0_entry_9 : decode cX0_entry 9 = .ok (.iload_n 2, 1) := by decide +kernel
theorem dX0_entry_10 : decode cX0_entry 10 = .ok (.invokevirtual 38, 3) := by decide +kernel
theorem dX0_entry_13 : decode cX0_entry 13 = .ok (.ifCond .ne 5, 3) := by decide +kernel
theorem dX0_entry_16 : decode cX0_entry 16 = .ok (.iconst (-1), 1) := by decide +kernel
theorem dX0_entry_17 : decode cX0_entry 17 = .ok (.ireturn, 1) := by decide +kernel
theorem dX0_entry_18 : decode cX0_entry 18 = .ok (.aload_n 0, 1) := by decide +kernel
theorem dX0_entry_19 : decode cX0_entry 19 = .ok (.getfield 14, 3) := by decide +kernel
theorem dX0_entry_22 : decode cX0_entry 22 = .ok (.iload_n 1, 1) := by decide +kernel
theorem dX0_entry_23 : decode cX0_entry 23 = .ok (.iconst 4, 1) := by decide +kernel
theorem dX0_entry_24 : decode cX0_entry 24 = .ok (.imul, 1) := by decide +kernel
theorem dX0_entry_25 : decode cX0_entry 25 = .ok (.iload_n 2, 1) := by decide +kernel
theorem dX0_entry_26 : decode cX0_entry 26 = .ok (.iadd, 1) := by decide +kernel
theorem dX0_entry_27 : decode cX0_entry 27 = .ok (.invokevirtual 41, 3) := by decide +kernel
theorem dX0_entry_30 : decode cX0_entry 30 = .ok (.ireturn, 1) := by decide +kernel
set_option maxRecDepth 20000 in
theorem ggX0_remake_X1_wipe : GoodIn wsX0_remake wsX1_wipe := goodIn_r _ [8, 9, 10, 11, 12, 13, 14, 15, 16, 17, 22, 23, 24, 25] (by decide +kernel) (by decide +kernel)
set_option maxRecDepth 20000 in
theorem gX0_remake_X1_wipe : GoodIn wsX0_remake (wsV RX0 45 RX1 yX1_wipe wsX1_wipe) := goodIn_app (goodIn_of _ (by decide +kernel)) ggX0_remake_X1_wipe
theorem dX0_remake_0 : decode cX0_remake 0 = .ok (.aload_n 0, 1) := by decide +kernel
theorem dX0_remake_1 : decode cX0_remake 1 = .ok (.getfield 31, 3) := by decide +kernel
theorem dX0_remake_4 : decode cX0_remake 4 = .ok (.istore_n 2, 1) := by decide +kernel
theorem dX0_remake_5 : decode cX0_remake 5 = .ok (.aload_n 0, 1) := by decide +kernel
theorem dX0_remake_6 : decode cX0_remake 6 = .ok (.iload_n 1, 1) := by decide +kernel
theorem dX0_remake_7 : decode cX0_remake 7 = .ok (.putfield 27, 3) := by decide +kernel
theorem dX0_remake_10 : decode cX0_remake 10 = .ok (.aload_n 0, 1) := by decide +kernel
theorem dX0_remake_11 : decode cX0_remake 11 = .ok (.iconst 0, 1) := by decide +kernel
theorem dX0_remake_12 : decode cX0_remake 12 = .ok (.putfield 31, 3) := by decide +kernel
theorem dX0_remake_15 : decode cX0_remake 15 = .ok (.aload_n 0, 1) := by decide +kernel
theorem dX0_remake_16 : decode cX0_remake 16 = .ok (.getfield 23, 3) := by decide +kernel
theorem dX0_remake_19 : decode cX0_remake 19 = .ok (.invokevirtual 45, 3) := by decide +kernel
theorem dX0_remake_22 : decode cX0_remake 22 = .ok (.iload_n 2, 1) := by decide +kernel
theorem dX0_remake_23 : decode cX0_remake 23 = .ok (.ireturn, 1) := by decide +kernel
set_option maxRecDepth 20000 in
theorem ggX0_add_X3_set : GoodIn wsX0_add wsX3_set := goodIn_r _ [7, 8, 13] (by decide +kernel) (by decide +kernel)
set_option maxRecDepth 20000 in
theorem gX0_add_X3_set : GoodIn wsX0_add (wsV RX0 48 RX3 yX3_set wsX3_set) := goodIn_app (goodIn_of _ (by decide +kernel)) ggX0_add_X3_set
theorem dX0_add_0 : decode cX0_add 0 = .ok (.aload_n 0, 1) := by decide +kernel
theorem dX0_add_1 : decode cX0_add 1 = .ok (.getfield 31, 3) := by decide +kernel
theorem dX0_add_4 : decode cX0_add 4 = .ok (.iconst 4, 1) := by decide +kernel
theorem dX0_add_5 : decode cX0_add 5 = .ok (.imul, 1) := by decide +kernel
theorem dX0_add_6 : decode cX0_add 6 = .ok (.istore 5, 2) := by decide +kernel
theorem dX0_add_8 : decode cX0_add 8 = .ok (.aload_n 0, 1) := by decide +kernel
theorem dX0_add_9 : decode cX0_add 9 = .ok (.getfield 14, 3) := by decide +kernel
theorem dX0_add_12 : decode cX0_add 12 = .ok (.iload 5, 2) := by decide +kernel
theorem dX0_add_14 : decode cX0_add 14 = .ok (.iload_n 1, 1) := by decide +kernel
theorem dX0_add_15 : decode cX0_add 15 = .ok (.invokevirtual 48, 3) := by decide +kernel
theorem dX0_add_18 : decode cX0_add 18 = .ok (.aload_n 0, 1) := by decide +kernel
theorem dX0_add_19 : decode cX0_add 19 = .ok (.getfield 14, 3) := by decide +kernel
theorem dX0_add_22 : decode cX0_add 22 = .ok (.iload 5, 2) := by decide +kernel
theorem dX0_add_24 : decode cX0_add 24 = .ok (.iconst 1, 1) := by decide +kernel
theorem dX0_add_25 : decode cX0_add 25 = .ok (.iadd, 1) := by decide +kernel
theorem dX0_add_26 : decode cX0_add 26 = .ok (.iload_n 2, 1) := by decide +kernel
theorem dX0_add_27 : decode cX0_add 27 = .ok (.invokevirtual 48, 3) := by decide +kernel
theorem dX0_add_30 : decode cX0_add 30 = .ok (.aload_n 0, 1) := by decide +kernel
theorem dX0_add_31 : decode cX0_add 31 = .ok (.getfield 14, 3) := by decide +kernel
theorem dX0_add_34 : decode cX0_add 34 = .ok (.iload 5, 2) := by decide +kernel
theorem dX0_add_36 : decode cX0_add 36 = .ok (.iconst 2, 1) := by decide +kernel
theorem dX0_add_37 : decode cX0_add 37 = .ok (.iadd, 1) := by decide +kernel
theorem dX0_add_38 : decode cX0_add 38 = .ok (.iload_n 3, 1) := by decide +kernel
theorem dX0_add_39 : decode cX0_add 39 = .ok (.invokevirtual 48, 3) := by decide +kernel
theorem dX0_add_42 : decode cX0_add 42 = .ok (.aload_n 0, 1) := by decide +kernel
theorem dX0_add_43 : decode cX0_add 43 = .ok (.getfield 14, 3) := by decide +kernel
theorem dX0_add_46 : decode cX0_add 46 = .ok (.iload 5, 2) := by decide +kernel
theorem dX0_add_48 : decode cX0_add 48 = .ok (.iconst 3, 1) := by decide +kernel
theorem dX0_add_49 : decode cX0_add 49 = .ok (.iadd, 1) := by decide +kernel
theorem dX0_add_50 : decode cX0_add 50 = .ok (.iload 4, 2) := by decide +kernel
theorem dX0_add_52 : decode cX0_add 52 = .ok (.invokevirtual 48, 3) := by decide +kernel
theorem dX0_add_55 : decode cX0_add 55 = .ok (.aload_n 0, 1) := by decide +kernel
theorem dX0_add_56 : decode cX0_add 56 = .ok (.dup, 1) := by decide +kernel
theorem dX0_add_57 : decode cX0_add 57 = .ok (.getfield 31, 3) := by decide +kernel
theorem dX0_add_60 : decode cX0_add 60 = .ok (.iconst 1, 1) := by decide +kernel
theorem dX0_add_61 : decode cX0_add 61 = .ok (.iadd, 1) := by decide +kernel
theorem dX0_add_62 : decode cX0_add 62 = .ok (.putfield 31, 3) := by decide +kernel
theorem dX0_add_65 : decode cX0_add 65 = .ok (.aload_n 0, 1) := by decide +kernel
theorem dX0_add_66 : decode cX0_add 66 = .ok (.getfield 31, 3) := by decide +kernel
theorem dX0_add_69 : decode cX0_add 69 = .ok (.iconst 1, 1) := by decide +kernel
theorem dX0_add_70 : decode cX0_add 70 = .ok (.isub, 1) := by decide +kernel
theorem dX0_add_71 : decode cX0_add 71 = .ok (.ireturn, 1) := by decide +kernel
set_option maxRecDepth 20000 in
theorem ggX0_replace_X0_entry : GoodIn wsX0_replace wsX0_entry := goodIn_r _ [6, 1, 7, 8, 9, 5, 10, 11, 12, 13, 14, 15, 16, 17, 18, 19, 20, 21, 22, 27, 28, 29, 30, 31] (by decide +kernel) (by decide +kernel)
set_option maxRecDepth 20000 in
theorem gX0_replace_X0_entry : GoodIn wsX0_replace (wsV RX0 51 RX0 yX0_entry wsX0_entry) := goodIn_app (goodIn_of _ (by decide +kernel)) ggX0_replace_X0_entry
set_option maxRecDepth 20000 in
theorem ggX0_replace_X3_set : GoodIn wsX0_replace wsX3_set := goodIn_r _ [26, 22, 31] (by decide +kernel) (by decide +kernel)
set_option maxRecDepth 20000 in
theorem gX0_replace_X3_set : GoodIn wsX0_replace (wsV RX0 48 RX3 yX3_set wsX3_set) := goodIn_app (goodIn_of _ (by decide +kernel)) ggX0_replace_X3_set
theorem dX0_replace_0 : decode cX0_replace 0 = .ok (.aload_n 0, 1) := by decide +kernel
theorem dX0_replace_1 : decode cX0_replace 1 = .ok (.iload_n 1, 1) := by decide +kernel
theorem dX0_replace_2 : decode cX0_replace 2 = .ok (.iload_n 2, 1) := by decide +kernel
theorem dX0_replace_3 : decode cX0_replace 3 = .ok (.invokevirtual 51, 3) := by decide +kernel
theorem dX0_replace_6 : decode cX0_replace 6 = .ok (.istore 4, 2) := by decide +kernel
theorem dX0_replace_8 : decode cX0_replace 8 = .ok (.aload_n 0, 1) := by decide +kernel
theorem dX0_replace_9 : decode cX0_replace 9 = .ok (.getfield 14, 3) := by decide +kernel
theorem dX0_replace_12 : decode cX0_replace 12 = .ok (.iload_n 1, 1) := by decide +kernel
theorem dX0_replace_13 : decode cX0_replace 13 = .ok (.iconst 4, 1) := by decide +kernel
theorem dX0_replace_14 : decode cX0_replace 14 = .ok (.imul, 1) := by decide +kernel
theorem dX0_replace_15 : decode cX0_replace 15 = .ok (.iload_n 2, 1) := by decide +kernel
theorem dX0_replace_16 : decode cX0_replace 16 = .ok (.iadd, 1) := by decide +kernel
theorem dX0_replace_17 : decode cX0_replace 17 = .ok (.iload_n 3, 1) := by decide +kernel
theorem dX0_replace_18 : decode cX0_replace 18 = .ok (.invokevirtual 48, 3) := by decide +kernel
theorem dX0_replace_21 : decode cX0_replace 21 = .ok (.iload 4, 2) := by decide +kernel
theorem dX0_replace_23 : decode cX0_replace 23 = .ok (.ireturn, 1) := by decide +kernel
set_option maxRecDepth 20000 in
theorem ggX0_remove_X3_at : GoodIn wsX0_remove wsX3_at := goodIn_r _ [7, 8, 17] (by decide +kernel) (by decide +kernel)
set_option maxRecDepth 20000 in
theorem gX0_remove_X3_at : GoodIn wsX0_remove (wsV RX0 41 RX3 yX3_at wsX3_at) := goodIn_app (goodIn_of _ (by decide +kernel)) ggX0_remove_X3_at
set_option maxRecDepth 20000 in
theorem ggX0_remove_X3_set : GoodIn wsX0_remove wsX3_set := goodIn_r _ [12, 8, 17] (by decide +kernel) (by decide +kernel)
set_option maxRecDepth 20000 in
theorem gX0_remove_X3_set : GoodIn wsX0_remove (wsV RX0 48 RX3 yX3_set wsX3_set) := goodIn_app (goodIn_of _ (by decide +kernel)) ggX0_remove_X3_set
theorem dX0_remove_0 : decode cX0_remove 0 = .ok (.aload_n 0, 1) := by decide +kernel
theorem dX0_remove_1 : decode cX0_remove 1 = .ok (.dup, 1) := by decide +kernel
theorem dX0_remove_2 : decode cX0_remove 2 = .ok (.getfield 31, 3) := by decide +kernel
theorem dX0_remove_5 : decode cX0_remove 5 = .ok (.iconst 1, 1) := by decide +kernel
theorem dX0_remove_6 : decode cX0_remove 6 = .ok (.isub, 1) := by decide +kernel
theorem dX0_remove_7 : decode cX0_remove 7 = .ok (.putfield 31, 3) := by decide +kernel
theorem dX0_remove_10 : decode cX0_remove 10 = .ok (.iload_n 1, 1) := by decide +kernel
theorem dX0_remove_11 : decode cX0_remove 11 = .ok (.iconst 4, 1) := by decide +kernel
theorem dX0_remove_12 : decode cX0_remove 12 = .ok (.imul, 1) := by decide +kernel
theorem dX0_remove_13 : decode cX0_remove 13 = .ok (.istore_n 2, 1) := by decide +kernel
theorem dX0_remove_14 : decode cX0_remove 14 = .ok (.iload_n 2, 1) := by decide +kernel
theorem dX0_remove_15 : decode cX0_remove 15 = .ok (.aload_n 0, 1) := by decide +kernel
theorem dX0_remove_16 : decode cX0_remove 16 = .ok (.getfield 31, 3) := by decide +kernel
theorem dX0_remove_19 : decode cX0_remove 19 = .ok (.iconst 4, 1) := by decide +kernel
theorem dX0_remove_20 : decode cX0_remove 20 = .ok (.imul, 1) := by decide +kernel
theorem dX0_remove_21 : decode cX0_remove 21 = .ok (.if_icmp .ge 27, 3) := by decide +kernel
theorem dX0_remove_24 : decode cX0_remove 24 = .ok (.aload_n 0, 1) := by decide +kernel
theorem dX0_remove_25 : decode cX0_remove 25 = .ok (.getfield 14, 3) := by decide +kernel
theorem dX0_remove_28 : decode cX0_remove 28 = .ok (.iload_n 2, 1) := by decide +kernel
theorem dX0_remove_29 : decode cX0_remove 29 = .ok (.aload_n 0, 1) := by decide +kernel
theorem dX0_remove_30 : decode cX0_remove 30 = .ok (.getfield 14, 3) := by decide +kernel
theorem dX0_remove_33 : decode cX0_remove 33 = .ok (.iload_n 2, 1) := by decide +kernel
theorem dX0_remove_34 : decode cX0_remove 34 = .ok (.iconst 4, 1) := by decide +kernel
theorem dX0_remove_35 : decode cX0_remove 35 = .ok (.iadd, 1) := by decide +kernel
theorem dX0_remove_36 : decode cX0_remove 36 = .ok (.invokevirtual 41, 3) := by decide +kernel
theorem dX0_remove_39 : decode cX0_remove 39 = .ok (.invokevirtual 48, 3) := by decide +kernel
theorem dX0_remove_42 : decode cX0_remove 42 = .ok (.iinc 2 1, 3) := by decide +kernel
theorem dX0_remove_45 : decode cX0_remove 45 = .ok (.goto (-31), 3) := by decide +kernel
theorem dX0_remove_48 : decode cX0_remove 48 = .ok (.aload_n 0, 1) := by decide +kernel
theorem dX0_remove_49 : decode cX0_remove 49 = .ok (.getfield 31, 3) := by decide +kernel
theorem dX0_remove_52 : decode cX0_remove 52 = .ok (.ireturn, 1) := by decide +kernel
set_option maxRecDepth 20000 in
theorem ggX0_countFitting_X0_entry : GoodIn wsX0_countFitting wsX0_entry := goodIn_r _ [7, 8, 9, 10, 11, 6, 12, 1, 13, 14, 15, 16, 17, 18, 19, 20, 21, 22, 23, 33, 34, 35, 36, 37] (by decide +kernel) (by decide +kernel)
set_option maxRecDepth 20000 in
theorem gX0_countFitting_X0_entry : GoodIn wsX0_countFitting (wsV RX0 51 RX0 yX0_entry wsX0_entry) := goodIn_app (goodIn_of _ (by decide +kernel)) ggX0_countFitting_X0_entry
set_option maxRecDepth 20000 in
theorem ggX0_countFitting_X1_takesAlone : GoodIn wsX0_countFitting wsX1_takesAlone := goodIn_r _ [28, 29, 30, 31, 32, 19, 20, 21, 22, 23, 38, 39, 40, 37] (by decide +kernel) (by decide +kernel)
set_option maxRecDepth 20000 in
theorem gX0_countFitting_X1_takesAlone : GoodIn wsX0_countFitting (wsV RX0 55 RX1 yX1_takesAlone wsX1_takesAlone) := goodIn_app (goodIn_of _ (by decide +kernel)) ggX0_countFitting_X1_takesAlone
theorem dX0_countFitting_0 : decode cX0_countFitting 0 = .ok (.iconst 0, 1) := by decide +kernel
theorem dX0_countFitting_1 : decode cX0_countFitting 1 = .ok (.istore_n 2, 1) := by decide +kernel
theorem dX0_countFitting_2 : decode cX0_countFitting 2 = .ok (.iconst 0, 1) := by decide +kernel
theorem dX0_countFitting_3 : decode cX0_countFitting 3 = .ok (.istore_n 3, 1) := by decide +kernel
theorem dX0_countFitting_4 : decode cX0_countFitting 4 = .ok (.iload_n 3, 1) := by decide +kernel
theorem dX0_countFitting_5 : decode cX0_countFitting 5 = .ok (.aload_n 0, 1) := by decide +kernel
theorem dX0_countFitting_6 : decode cX0_countFitting 6 = .ok (.getfield 31, 3) := by decide +kernel
theorem dX0_countFitting_9 : decode cX0_countFitting 9 = .ok (.if_icmp .ge 29, 3) := by decide +kernel
theorem dX0_countFitting_12 : decode cX0_countFitting 12 = .ok (.aload_n 0, 1) := by decide +kernel
theorem dX0_countFitting_13 : decode cX0_countFitting 13 = .ok (.getfield 23, 3) := by decide +kernel
theorem dX0_countFitting_16 : decode cX0_countFitting 16 = .ok (.iload_n 1, 1) := by decide +kernel
theorem dX0_countFitting_17 : decode cX0_countFitting 17 = .ok (.aload_n 0, 1) := by decide +kernel
theorem dX0_countFitting_18 : decode cX0_countFitting 18 = .ok (.iload_n 3, 1) := by decide +kernel
theorem dX0_countFitting_19 : decode cX0_countFitting 19 = .ok (.iload_n 1, 1) := by decide +kernel
theorem dX0_countFitting_20 : decode cX0_countFitting 20 = .ok (.invokevirtual 51, 3) := by decide +kernel
theorem dX0_countFitting_23 : decode cX0_countFitting 23 = .ok (.invokevirtual 55, 3) := by decide +kernel
theorem dX0_countFitting_26 : decode cX0_countFitting 26 = .ok (.ifCond .eq 6, 3) := by decide +kernel
theorem dX0_countFitting_29 : decode cX0_countFitting 29 = .ok (.iinc 2 1, 3) := by decide +kernel
theorem dX0_countFitting_32 : decode cX0_countFitting 32 = .ok (.iinc 3 1, 3) := by decide +kernel
theorem dX0_countFitting_35 : decode cX0_countFitting 35 = .ok (.goto (-31), 3) := by decide +kernel
theorem dX0_countFitting_38 : decode cX0_countFitting 38 = .ok (.iload_n 2, 1) := by decide +kernel
theorem dX0_countFitting_39 : decode cX0_countFitting 39 = .ok (.ireturn, 1) := by decide +kernel
set_option maxRecDepth 20000 in
theorem ggX0_copyFrom_X3_copyFrom : GoodIn wsX0_copyFrom wsX3_copyFrom := goodIn_r _ [9, 10, 11, 12, 13, 8, 14, 28] (by decide +kernel) (by decide +kernel)
set_option maxRecDepth 20000 in
theorem gX0_copyFrom_X3_copyFrom : GoodIn wsX0_copyFrom (wsV RX0 59 RX3 yX3_copyFrom wsX3_copyFrom) := goodIn_app (goodIn_of _ (by decide +kernel)) ggX0_copyFrom_X3_copyFrom
set_option maxRecDepth 20000 in
theorem ggX0_copyFrom_X1_copyFrom : GoodIn wsX0_copyFrom wsX1_copyFrom := goodIn_r _ [19, 20, 21, 22, 23, 6, 7, 8, 9, 10, 11, 12, 13, 14, 29, 30, 31, 28] (by decide +kernel) (by decide +kernel)
set_option maxRecDepth 20000 in
theorem gX0_copyFrom_X1_copyFrom : GoodIn wsX0_copyFrom (wsV RX0 63 RX1 yX1_copyFrom wsX1_copyFrom) := goodIn_app (goodIn_of _ (by decide +kernel)) ggX0_copyFrom_X1_copyFrom
theorem dX0_copyFrom_0 : decode cX0_copyFrom 0 = .ok (.aload_n 0, 1) := by decide +kernel
theorem dX0_copyFrom_1 : decode cX0_copyFrom 1 = .ok (.getfield 14, 3) := by decide +kernel
theorem dX0_copyFrom_4 : decode cX0_copyFrom 4 = .ok (.aload_n 1, 1) := by decide +kernel
theorem dX0_copyFrom_5 : decode cX0_copyFrom 5 = .ok (.getfield 14, 3) := by decide +kernel
theorem dX0_copyFrom_8 : decode cX0_copyFrom 8 = .ok (.invokevirtual 59, 3) := by decide +kernel
theorem dX0_copyFrom_11 : decode cX0_copyFrom 11 = .ok (.aload_n 0, 1) := by decide +kernel
theorem dX0_copyFrom_12 : decode cX0_copyFrom 12 = .ok (.getfield 23, 3) := by decide +kernel
theorem dX0_copyFrom_15 : decode cX0_copyFrom 15 = .ok (.aload_n 1, 1) := by decide +kernel
theorem dX0_copyFrom_16 : decode cX0_copyFrom 16 = .ok (.getfield 23, 3) := by decide +kernel
theorem dX0_copyFrom_19 : decode cX0_copyFrom 19 = .ok (.invokevirtual 63, 3) := by decide +kernel
theorem dX0_copyFrom_22 : decode cX0_copyFrom 22 = .ok (.aload_n 0, 1) := by decide +kernel
theorem dX0_copyFrom_23 : decode cX0_copyFrom 23 = .ok (.aload_n 1, 1) := by decide +kernel
theorem dX0_copyFrom_24 : decode cX0_copyFrom 24 = .ok (.getfield 27, 3) := by decide +kernel
theorem dX0_copyFrom_27 : decode cX0_copyFrom 27 = .ok (.putfield 27, 3) := by decide +kernel
theorem dX0_copyFrom_30 : decode cX0_copyFrom 30 = .ok (.aload_n 0, 1) := by decide +kernel
theorem dX0_copyFrom_31 : decode cX0_copyFrom 31 = .ok (.aload_n 1, 1) := by decide +kernel
theorem dX0_copyFrom_32 : decode cX0_copyFrom 32 = .ok (.getfield 31, 3) := by decide +kernel
theorem dX0_copyFrom_35 : decode cX0_copyFrom 35 = .ok (.putfield 31, 3) := by decide +kernel
theorem dX0_copyFrom_38 : decode cX0_copyFrom 38 = .ok (.return_, 1) := by decide +kernel
set_option maxRecDepth 20000 in
theorem ggX1_init_X3_init : GoodIn wsX1_init wsX3_init := goodIn_r _ [12, 13, 2, 3, 14, 15, 16, 17, 18, 19, 20, 21, 22, 6, 23, 24] (by decide +kernel) (by decide +kernel)
set_option maxRecDepth 20000 in
theorem gX1_init_X3_init : GoodIn wsX1_init (wsX3_init) := ggX1_init_X3_init
theorem dX1_init_0 : decode cX1_init 0 = .ok (.aload_n 0, 1) := by decide +kernel
theorem dX1_init_1 : decode cX1_init 1 = .ok (.invokespecial 3, 3) := by decide +kernel
theorem dX1_init_4 : decode cX1_init 4 = .ok (.aload_n 0, 1) := by decide +kernel
theorem dX1_init_5 : decode cX1_init 5 = .ok (.new 9, 3) := by decide +kernel
theorem dX1_init_8 : decode cX1_init 8 = .ok (.dup, 1) := by decide +kernel
theorem dX1_init_9 : decode cX1_init 9 = .ok (.iconst 4, 1) := by decide +kernel
theorem dX1_init_10 : decode cX1_init 10 = .ok (.iconst 0, 1) := by decide +kernel
theorem dX1_init_11 : decode cX1_init 11 = .ok (.invokespecial 11, 3) := by decide +kernel
theorem dX1_init_14 : decode cX1_init 14 = .ok (.putfield 14, 3) := by decide +kernel
theorem dX1_init_17 : decode cX1_init 17 = .ok (.aload_n 0, 1) := by decide +kernel
theorem dX1_init_18 : decode cX1_init 18 = .ok (.new 9, 3) := by decide +kernel
theorem dX1_init_21 : decode cX1_init 21 = .ok (.dup, 1) := by decide +kernel
theorem dX1_init_22 : decode cX1_init 22 = .ok (.iconst 4, 1) := by decide +kernel
theorem dX1_init_23 : decode cX1_init 23 = .ok (.iconst 0, 1) := by decide +kernel
theorem dX1_init_24 : decode cX1_init 24 = .ok (.invokespecial 11, 3) := by decide +kernel
theorem dX1_init_27 : decode cX1_init 27 = .ok (.putfield 20, 3) := by decide +kernel
theorem dX1_init_30 : decode cX1_init 30 = .ok (.aload_n 0, 1) := by decide +kernel
theorem dX1_init_31 : decode cX1_init 31 = .ok (.new 9, 3) := by decide +kernel
theorem dX1_init_34 : decode cX1_init 34 = .ok (.dup, 1) := by decide +kernel
theorem dX1_init_35 : decode cX1_init 35 = .ok (.iconst 4, 1) := by decide +kernel
theorem dX1_init_36 : decode cX1_init 36 = .ok (.iconst 0, 1) := by decide +kernel
theorem dX1_init_37 : decode cX1_init 37 = .ok (.invokespecial 11, 3) := by decide +kernel
theorem dX1_init_40 : decode cX1_init 40 = .ok (.putfield 23, 3) := by decide +kernel
theorem dX1_init_43 : decode cX1_init 43 = .ok (.return_, 1) := by decide +kernel
set_option maxRecDepth 20000 in
theorem ggX1_kindAt_X3_at : GoodIn wsX1_kindAt wsX3_at := goodIn_r _ [6, 7, 11] (by decide +kernel) (by decide +kernel)
set_option maxRecDepth 20000 in
theorem gX1_kindAt_X3_at : GoodIn wsX1_kindAt (wsV RX1 26 RX3 yX3_at wsX3_at) := goodIn_app (goodIn_of _ (by decide +kernel)) ggX1_kindAt_X3_at
theorem dX1_kindAt_0 : decode cX1_kindAt 0 = .ok (.aload_n 0, 1) := by decide +kernel
theorem dX1_kindAt_1 : decode cX1_kindAt 1 = .ok (.getfield 14, 3) := by decide +kernel
theorem dX1_kindAt_4 : decode cX1_kindAt 4 = .ok (.iload_n 1, 1) := by decide +kernel
theorem dX1_kindAt_5 : decode cX1_kindAt 5 = .ok (.invokevirtual 26, 3) := by decide +kernel
theorem dX1_kindAt_8 : decode cX1_kindAt 8 = .ok (.ireturn, 1) := by decide +kernel
set_option maxRecDepth 20000 in
theorem ggX1_firstAt_X3_at : GoodIn wsX1_firstAt wsX3_at := goodIn_r _ [6, 7, 11] (by decide +kernel) (by decide +kernel)
set_option maxRecDepth 20000 in
theorem gX1_firstAt_X3_at : GoodIn wsX1_firstAt (wsV RX1 26 RX3 yX3_at wsX3_at) := goodIn_app (goodIn_of _ (by decide +kernel)) ggX1_firstAt_X3_at
theorem dX1_firstAt_0 : decode cX1_firstAt 0 = .ok (.aload_n 0, 1) := by decide +kernel
theorem dX1_firstAt_1 : decode cX1_firstAt 1 = .ok (.getfield 20, 3) := by decide +kernel
theorem dX1_firstAt_4 : decode cX1_firstAt 4 = .ok (.iload_n 1, 1) := by decide +kernel
theorem dX1_firstAt_5 : decode cX1_firstAt 5 = .ok (.invokevirtual 26, 3) := by decide +kernel
theorem dX1_firstAt_8 : decode cX1_firstAt 8 = .ok (.ireturn, 1) := by decide +kernel
set_option maxRecDepth 20000 in
theorem ggX1_secondAt_X3_at : GoodIn wsX1_secondAt wsX3_at := goodIn_r _ [6, 7, 11] (by decide +kernel) (by decide +kernel)
set_option maxRecDepth 20000 in
theorem gX1_secondAt_X3_at : GoodIn wsX1_secondAt (wsV RX1 26 RX3 yX3_at wsX3_at) := goodIn_app (goodIn_of _ (by decide +kernel)) ggX1_secondAt_X3_at
theorem dX1_secondAt_0 : decode cX1_secondAt 0 = .ok (.aload_n 0, 1) := by decide +kernel
theorem dX1_secondAt_1 : decode cX1_secondAt 1 = .ok (.getfield 23, 3) := by decide +kernel
theorem dX1_secondAt_4 : decode cX1_secondAt 4 = .ok (.iload_n 1, 1) := by decide +kernel
theorem dX1_secondAt_5 : decode cX1_secondAt 5 = .ok (.invokevirtual 26, 3) := by decide +kernel
theorem dX1_secondAt_8 : decode cX1_secondAt 8 = .ok (.ireturn, 1) := by decide +kernel
set_option maxRecDepth 20000 in
theorem ggX1_fill_X3_set : GoodIn wsX1_fill wsX3_set := goodIn_r _ [8, 9, 13] (by decide +kernel) (by decide +kernel)
set_option maxRecDepth 20000 in
theorem gX1_fill_X3_set : GoodIn wsX1_fill (wsV RX1 30 RX3 yX3_set wsX3_set) := goodIn_app (goodIn_of _ (by decide +kernel)) ggX1_fill_X3_set
theorem dX1_fill_0 : decode cX1_fill 0 = .ok (.aload_n 0, 1) := by decide +kernel
theorem dX1_fill_1 : decode cX1_fill 1 = .ok (.getfield 14, 3) := by decide +kernel
theorem dX1_fill_4 : decode cX1_fill 4 = .ok (.iload_n 1, 1) := by decide +kernel
theorem dX1_fill_5 : decode cX1_fill 5 = .ok (.iload_n 2, 1) := by decide +kernel
theorem dX1_fill_6 : decode cX1_fill 6 = .ok (.invokevirtual 30, 3) := by decide +kernel
theorem dX1_fill_9 : decode cX1_fill 9 = .ok (.aload_n 0, 1) := by decide +kernel
theorem dX1_fill_10 : decode cX1_fill 10 = .ok (.getfield 20, 3) := by decide +kernel
theorem dX1_fill_13 : decode cX1_fill 13 = .ok (.iload_n 1, 1) := by decide +kernel
theorem dX1_fill_14 : decode cX1_fill 14 = .ok (.iload_n 3, 1) := by decide +kernel
theorem dX1_fill_15 : decode cX1_fill 15 = .ok (.invokevirtual 30, 3) := by decide +kernel
theorem dX1_fill_18 : decode cX1_fill 18 = .ok (.aload_n 0, 1) := by decide +kernel
theorem dX1_fill_19 : decode cX1_fill 19 = .ok (.getfield 23, 3) := by decide +kernel
theorem dX1_fill_22 : decode cX1_fill 22 = .ok (.iload_n 1, 1) := by decide +kernel
theorem dX1_fill_23 : decode cX1_fill 23 = .ok (.iload 4, 2) := by decide +kernel
theorem dX1_fill_25 : decode cX1_fill 25 = .ok (.invokevirtual 30, 3) := by decide +kernel
theorem dX1_fill_28 : decode cX1_fill 28 = .ok (.return_, 1) := by decide +kernel
set_option maxRecDepth 20000 in
theorem ggX1_wipe_X3_fill : GoodIn wsX1_wipe wsX3_fill := goodIn_r _ [8, 9, 13] (by decide +kernel) (by decide +kernel)
set_option maxRecDepth 20000 in
theorem gX1_wipe_X3_fill : GoodIn wsX1_wipe (wsV RX1 33 RX3 yX3_fill wsX3_fill) := goodIn_app (goodIn_of _ (by decide +kernel)) ggX1_wipe_X3_fill
theorem dX1_wipe_0 : decode cX1_wipe 0 = .ok (.aload_n 0, 1) := by decide +kernel
theorem dX1_wipe_1 : decode cX1_wipe 1 = .ok (.getfield 14, 3) := by decide +kernel
theorem dX1_wipe_4 : decode cX1_wipe 4 = .ok (.iconst 0, 1) := by decide +kernel
theorem dX1_wipe_5 : decode cX1_wipe 5 = .ok (.invokevirtual 33, 3) := by decide +kernel
theorem dX1_wipe_8 : decode cX1_wipe 8 = .ok (.aload_n 0, 1) := by decide +kernel
theorem dX1_wipe_9 : decode cX1_wipe 9 = .ok (.getfield 20, 3) := by decide +kernel
theorem dX1_wipe_12 : decode cX1_wipe 12 = .ok (.iconst 0, 1) := by decide +kernel
theorem dX1_wipe_13 : decode cX1_wipe 13 = .ok (.invokevirtual 33, 3) := by decide +kernel
theorem dX1_wipe_16 : decode cX1_wipe 16 = .ok (.aload_n 0, 1) := by decide +kernel
theorem dX1_wipe_17 : decode cX1_wipe 17 = .ok (.getfield 23, 3) := by decide +kernel
theorem dX1_wipe_20 : decode cX1_wipe 20 = .ok (.iconst 0, 1) := by decide +kernel
theorem dX1_wipe_21 : decode cX1_wipe 21 = .ok (.invokevirtual 33, 3) := by decide +kernel
theorem dX1_wipe_24 : decode cX1_wipe 24 = .ok (.return_, 1) := by decide +kernel
set_option maxRecDepth 20000 in
theorem ggX1_otherKinds_X3_at : GoodIn wsX1_otherKinds wsX3_at := goodIn_r _ [6, 7, 11] (by decide +kernel) (by decide +kernel)
set_option maxRecDepth 20000 in
theorem gX1_otherKinds_X3_at : GoodIn wsX1_otherKinds (wsV RX1 26 RX3 yX3_at wsX3_at) := goodIn_app (goodIn_of _ (by decide +kernel)) ggX1_otherKinds_X3_at
theorem dX1_otherKinds_0 : decode cX1_otherKinds 0 = .ok (.iconst 0, 1) := by decide +kernel
theorem dX1_otherKinds_1 : decode cX1_otherKinds 1 = .ok (.istore_n 1, 1) := by decide +kernel
theorem dX1_otherKinds_2 : decode cX1_otherKinds 2 = .ok (.iconst 0, 1) := by decide +kernel
theorem dX1_otherKinds_3 : decode cX1_otherKinds 3 = .ok (.istore_n 2, 1) := by decide +kernel
theorem dX1_otherKinds_4 : decode cX1_otherKinds 4 = .ok (.iload_n 2, 1) := by decide +kernel
theorem dX1_otherKinds_5 : decode cX1_otherKinds 5 = .ok (.iconst 4, 1) := by decide +kernel
theorem dX1_otherKinds_6 : decode cX1_otherKinds 6 = .ok (.if_icmp .ge 23, 3) := by decide +kernel
theorem dX1_otherKinds_9 : decode cX1_otherKinds 9 = .ok (.aload_n 0, 1) := by decide +kernel
theorem dX1_otherKinds_10 : decode cX1_otherKinds 10 = .ok (.getfield 14, 3) := by decide +kernel
theorem dX1_otherKinds_13 : decode cX1_otherKinds 13 = .ok (.iload_n 2, 1) := by decide +kernel
theorem dX1_otherKinds_14 : decode cX1_otherKinds 14 = .ok (.invokevirtual 26, 3) := by decide +kernel
theorem dX1_otherKinds_17 : decode cX1_otherKinds 17 = .ok (.ifCond .eq 6, 3) := by decide +kernel
theorem dX1_otherKinds_20 : decode cX1_otherKinds 20 = .ok (.iinc 1 1, 3) := by decide +kernel
theorem dX1_otherKinds_23 : decode cX1_otherKinds 23 = .ok (.iinc 2 1, 3) := by decide +kernel
theorem dX1_otherKinds_26 : decode cX1_otherKinds 26 = .ok (.goto (-22), 3) := by decide +kernel
theorem dX1_otherKinds_29 : decode cX1_otherKinds 29 = .ok (.iload_n 1, 1) := by decide +kernel
theorem dX1_otherKinds_30 : decode cX1_otherKinds 30 = .ok (.ireturn, 1) := by decide +kernel
set_option maxRecDepth 20000 in
theorem ggX1_takesAlone_X3_at : GoodIn wsX1_takesAlone wsX3_at := goodIn_r _ [8, 9, 13] (by decide +kernel) (by decide +kernel)
set_option maxRecDepth 20000 in
theorem gX1_takesAlone_X3_at : GoodIn wsX1_takesAlone (wsV RX1 26 RX3 yX3_at wsX3_at) := goodIn_app (goodIn_of _ (by decide +kernel)) ggX1_takesAlone_X3_at
theorem dX1_takesAlone_0 : decode cX1_takesAlone 0 = .ok (.aload_n 0, 1) := by decide +kernel
theorem dX1_takesAlone_1 : decode cX1_takesAlone 1 = .ok (.getfield 14, 3) := by decide +kernel
theorem dX1_takesAlone_4 : decode cX1_takesAlone 4 = .ok (.iload_n 1, 1) := by decide +kernel
theorem dX1_takesAlone_5 : decode cX1_takesAlone 5 = .ok (.invokevirtual 26, 3) := by decide +kernel
theorem dX1_takesAlone_8 : decode cX1_takesAlone 8 = .ok (.istore_n 3, 1) := by decide +kernel
theorem dX1_takesAlone_9 : decode cX1_takesAlone 9 = .ok (.aload_n 0, 1) := by decide +kernel
theorem dX1_takesAlone_10 : decode cX1_takesAlone 10 = .ok (.getfield 20, 3) := by decide +kernel
theorem dX1_takesAlone_13 : decode cX1_takesAlone 13 = .ok (.iload_n 1, 1) := by decide +kernel
theorem dX1_takesAlone_14 : decode cX1_takesAlone 14 = .ok (.invokevirtual 26, 3) := by decide +kernel
theorem dX1_takesAlone_17 : decode cX1_takesAlone 17 = .ok (.istore 4, 2) := by decide +kernel
theorem dX1_takesAlone_19 : decode cX1_takesAlone 19 = .ok (.iload_n 3, 1) := by decide +kernel
theorem dX1_takesAlone_20 : decode cX1_takesAlone 20 = .ok (.ifCond .eq 8, 3) := by decide +kernel
theorem dX1_takesAlone_23 : decode cX1_takesAlone 23 = .ok (.iload_n 3, 1) := by decide +kernel
theorem dX1_takesAlone_24 : decode cX1_takesAlone 24 = .ok (.iconst 1, 1) := by decide +kernel
theorem dX1_takesAlone_25 : decode cX1_takesAlone 25 = .ok (.if_icmp .ne 18, 3) := by decide +kernel
theorem dX1_takesAlone_28 : decode cX1_takesAlone 28 = .ok (.iload_n 3, 1) := by decide +kernel
theorem dX1_takesAlone_29 : decode cX1_takesAlone 29 = .ok (.ifCond .eq 8, 3) := by decide +kernel
theorem dX1_takesAlone_32 : decode cX1_takesAlone 32 = .ok (.iload_n 2, 1) := by decide +kernel
theorem dX1_takesAlone_33 : decode cX1_takesAlone 33 = .ok (.iconst (-1), 1) := by decide +kernel
theorem dX1_takesAlone_34 : decode cX1_takesAlone 34 = .ok (.if_icmp .ne 7, 3) := by decide +kernel
theorem dX1_takesAlone_37 : decode cX1_takesAlone 37 = .ok (.iconst 1, 1) := by decide +kernel
theorem dX1_takesAlone_38 : decode cX1_takesAlone 38 = .ok (.goto 4, 3) := by decide +kernel
theorem dX1_takesAlone_41 : decode cX1_takesAlone 41 = .ok (.iconst 0, 1) := by decide +kernel
theorem dX1_takesAlone_42 : decode cX1_takesAlone 42 = .ok (.ireturn, 1) := by decide +kernel
theorem dX1_takesAlone_43 : decode cX1_takesAlone 43 = .ok (.iload_n 2, 1) := by decide +kernel
theorem dX1_takesAlone_44 : decode cX1_takesAlone 44 = .ok (.iconst (-1), 1) := by decide +kernel
theorem dX1_takesAlone_45 : decode cX1_takesAlone 45 = .ok (.if_icmp .ne 5, 3) := by decide +kernel
theorem dX1_takesAlone_48 : decode cX1_takesAlone 48 = .ok (.iconst 0, 1) := by decide +kernel
theorem dX1_takesAlone_49 : decode cX1_takesAlone 49 = .ok (.ireturn, 1) := by decide +kernel
theorem dX1_takesAlone_50 : decode cX1_takesAlone 50 = .ok (.iload_n 3, 1) := by decide +kernel
theorem dX1_takesAlone_51 : decode cX1_takesAlone 51 = .ok (.tableswitch 115 2 8 #[41, 43, 55, 67, 79, 91, 41], 41) := by decide +kernel
theorem dX1_takesAlone_92 : decode cX1_takesAlone 92 = .ok (.iconst 1, 1) := by decide +kernel
theorem dX1_takesAlone_93 : decode cX1_takesAlone 93 = .ok (.ireturn, 1) := by decide +kernel
theorem dX1_takesAlone_94 : decode cX1_takesAlone 94 = .ok (.iload_n 2, 1) := by decide +kernel
theorem dX1_takesAlone_95 : decode cX1_takesAlone 95 = .ok (.iload 4, 2) := by decide +kernel
theorem dX1_takesAlone_97 : decode cX1_takesAlone 97 = .ok (.if_icmp .ne 7, 3) := by decide +kernel
theorem dX1_takesAlone_100 : decode cX1_takesAlone 100 = .ok (.iconst 1, 1) := by decide +kernel
theorem dX1_takesAlone_101 : decode cX1_takesAlone 101 = .ok (.goto 4, 3) := by decide +kernel
theorem dX1_takesAlone_104 : decode cX1_takesAlone 104 = .ok (.iconst 0, 1) := by decide +kernel
theorem dX1_takesAlone_105 : decode cX1_takesAlone 105 = .ok (.ireturn, 1) := by decide +kernel
theorem dX1_takesAlone_106 : decode cX1_takesAlone 106 = .ok (.iload_n 2, 1) := by decide +kernel
theorem dX1_takesAlone_107 : decode cX1_takesAlone 107 = .ok (.iload 4, 2) := by decide +kernel
theorem dX1_takesAlone_109 : decode cX1_takesAlone 109 = .ok (.if_icmp .eq 7, 3) := by decide +kernel
theorem dX1_takesAlone_112 : decode cX1_takesAlone 112 = .ok (.iconst 1, 1) := by decide +kernel
theorem dX1_takesAlone_113 : decode cX1_takesAlone 113 = .ok (.goto 4, 3) := by decide +kernel
theorem dX1_takesAlone_116 : decode cX1_takesAlone 116 = .ok (.iconst 0, 1) := by decide +kernel
theorem dX1_takesAlone_117 : decode cX1_takesAlone 117 = .ok (.ireturn, 1) := by decide +kernel
theorem dX1_takesAlone_118 : decode cX1_takesAlone 118 = .ok (.iload_n 2, 1) := by decide +kernel
theorem dX1_takesAlone_119 : decode cX1_takesAlone 119 = .ok (.iload 4, 2) := by decide +kernel
theorem dX1_takesAlone_121 : decode cX1_takesAlone 121 = .ok (.if_icmp .ge 7, 3) := by decide +kernel
theorem dX1_takesAlone_124 : decode cX1_takesAlone 124 = .ok (.iconst 1, 1) := by decide +kernel
theorem dX1_takesAlone_125 : decode cX1_takesAlone 125 = .ok (.goto 4, 3) := by decide +kernel
theorem dX1_takesAlone_128 : decode cX1_takesAlone 128 = .ok (.iconst 0, 1) := by decide +kernel
theorem dX1_takesAlone_129 : decode cX1_takesAlone 129 = .ok (.ireturn, 1) := by decide +kernel
theorem dX1_takesAlone_130 : decode cX1_takesAlone 130 = .ok (.iload_n 2, 1) := by decide +kernel
theorem dX1_takesAlone_131 : decode cX1_takesAlone 131 = .ok (.iload 4, 2) := by decide +kernel
theorem dX1_takesAlone_133 : decode cX1_takesAlone 133 = .ok (.if_icmp .le 7, 3) := by decide +kernel
theorem dX1_takesAlone_136 : decode cX1_takesAlone 136 = .ok (.iconst 1, 1) := by decide +kernel
theorem dX1_takesAlone_137 : decode cX1_takesAlone 137 = .ok (.goto 4, 3) := by decide +kernel
theorem dX1_takesAlone_140 : decode cX1_takesAlone 140 = .ok (.iconst 0, 1) := by decide +kernel
theorem dX1_takesAlone_141 : decode cX1_takesAlone 141 = .ok (.ireturn, 1) := by decide +kernel
theorem dX1_takesAlone_142 : decode cX1_takesAlone 142 = .ok (.iload_n 2, 1) := by decide +kernel
theorem dX1_takesAlone_143 : decode cX1_takesAlone 143 = .ok (.iload 4, 2) := by decide +kernel
theorem dX1_takesAlone_145 : decode cX1_takesAlone 145 = .ok (.if_icmp .lt 19, 3) := by decide +kernel
theorem dX1_takesAlone_148 : decode cX1_takesAlone 148 = .ok (.iload_n 2, 1) := by decide +kernel
theorem dX1_takesAlone_149 : decode cX1_takesAlone 149 = .ok (.aload_n 0, 1) := by decide +kernel
theorem dX1_takesAlone_150 : decode cX1_takesAlone 150 = .ok (.getfield 23, 3) := by decide +kernel
theorem dX1_takesAlone_153 : decode cX1_takesAlone 153 = .ok (.iload_n 1, 1) := by decide +kernel
theorem dX1_takesAlone_154 : decode cX1_takesAlone 154 = .ok (.invokevirtual 26, 3) := by decide +kernel
theorem dX1_takesAlone_157 : decode cX1_takesAlone 157 = .ok (.if_icmp .gt 7, 3) := by decide +kernel
theorem dX1_takesAlone_160 : decode cX1_takesAlone 160 = .ok (.iconst 1, 1) := by decide +kernel
theorem dX1_takesAlone_161 : decode cX1_takesAlone 161 = .ok (.goto 4, 3) := by decide +kernel
theorem dX1_takesAlone_164 : decode cX1_takesAlone 164 = .ok (.iconst 0, 1) := by decide +kernel
theorem dX1_takesAlone_165 : decode cX1_takesAlone 165 = .ok (.ireturn, 1) := by decide +kernel
theorem dX1_takesAlone_166 : decode cX1_takesAlone 166 = .ok (.iconst 0, 1) := by decide +kernel
theorem dX1_takesAlone_167 : decode cX1_takesAlone 167 = .ok (.ireturn, 1) := by decide +kernel
set_option maxRecDepth 20000 in
theorem ggX1_copyFrom_X3_copyFrom : GoodIn wsX1_copyFrom wsX3_copyFrom := goodIn_r _ [8, 9, 10, 11, 12, 7, 13, 17] (by decide +kernel) (by decide +kernel)
set_option maxRecDepth 20000 in
theorem gX1_copyFrom_X3_copyFrom : GoodIn wsX1_copyFrom (wsV RX1 37 RX3 yX3_copyFrom wsX3_copyFrom) := goodIn_app (goodIn_of _ (by decide +kernel)) ggX1_copyFrom_X3_copyFrom
theorem dX1_copyFrom_0 : decode cX1_copyFrom 0 = .ok (.aload_n 0, 1) := by decide +kernel
theorem dX1_copyFrom_1 : decode cX1_copyFrom 1 = .ok (.getfield 14, 3) := by decide +kernel
theorem dX1_copyFrom_4 : decode cX1_copyFrom 4 = .ok (.aload_n 1, 1) := by decide +kernel
theorem dX1_copyFrom_5 : decode cX1_copyFrom 5 = .ok (.getfield 14, 3) := by decide +kernel
theorem dX1_copyFrom_8 : decode cX1_copyFrom 8 = .ok (.invokevirtual 37, 3) := by decide +kernel
theorem dX1_copyFrom_11 : decode cX1_copyFrom 11 = .ok (.aload_n 0, 1) := by decide +kernel
theorem dX1_copyFrom_12 : decode cX1_copyFrom 12 = .ok (.getfield 20, 3) := by decide +kernel
theorem dX1_copyFrom_15 : decode cX1_copyFrom 15 = .ok (.aload_n 1, 1) := by decide +kernel
theorem dX1_copyFrom_16 : decode cX1_copyFrom 16 = .ok (.getfield 20, 3) := by decide +kernel
theorem dX1_copyFrom_19 : decode cX1_copyFrom 19 = .ok (.invokevirtual 37, 3) := by decide +kernel
theorem dX1_copyFrom_22 : decode cX1_copyFrom 22 = .ok (.aload_n 0, 1) := by decide +kernel
theorem dX1_copyFrom_23 : decode cX1_copyFrom 23 = .ok (.getfield 23, 3) := by decide +kernel
theorem dX1_copyFrom_26 : decode cX1_copyFrom 26 = .ok (.aload_n 1, 1) := by decide +kernel
theorem dX1_copyFrom_27 : decode cX1_copyFrom 27 = .ok (.getfield 23, 3) := by decide +kernel
theorem dX1_copyFrom_30 : decode cX1_copyFrom 30 = .ok (.invokevirtual 37, 3) := by decide +kernel
theorem dX1_copyFrom_33 : decode cX1_copyFrom 33 = .ok (.return_, 1) := by decide +kernel
set_option maxRecDepth 20000 in
theorem ggX2_init_X6_init : GoodIn wsX2_init wsX6_init := goodIn_r _ [13, 14, 2, 3, 15, 16, 17, 18, 19, 20, 21, 22, 23, 24, 25, 26, 27, 28, 29, 30, 31, 32, 33, 34, 35, 36, 37, 38, 39, 40, 41, 42, 43, 44, 45, 46, 47, 48, 49, 50, 51, 52, 53, 54, 55, 56, 57, 58, 59, 60, 72, 73, 74, 75, 61, 62, 63, 64, 65, 66, 76, 77, 78, 79] (by decide +kernel) (by decide +kernel)
set_option maxRecDepth 20000 in
theorem gX2_init_X6_init_n11 : GoodIn wsX2_init (wsX6_init) := ggX2_init_X6_init
theorem dX2_init_0 : decode cX2_init 0 = .ok (.aload_n 0, 1) := by decide +kernel
theorem dX2_init_1 : decode cX2_init 1 = .ok (.invokespecial 3, 3) := by decide +kernel
theorem dX2_init_4 : decode cX2_init 4 = .ok (.aload_n 0, 1) := by decide +kernel
theorem dX2_init_5 : decode cX2_init 5 = .ok (.new 9, 3) := by decide +kernel
theorem dX2_init_8 : decode cX2_init 8 = .ok (.dup, 1) := by decide +kernel
theorem dX2_init_9 : decode cX2_init 9 = .ok (.invokespecial 11, 3) := by decide +kernel
theorem dX2_init_12 : decode cX2_init 12 = .ok (.putfield 12, 3) := by decide +kernel
theorem dX2_init_15 : decode cX2_init 15 = .ok (.aload_n 0, 1) := by decide +kernel
theorem dX2_init_16 : decode cX2_init 16 = .ok (.new 9, 3) := by decide +kernel
theorem dX2_init_19 : decode cX2_init 19 = .ok (.dup, 1) := by decide +kernel
theorem dX2_init_20 : decode cX2_init 20 = .ok (.invokespecial 11, 3) := by decide +kernel
theorem dX2_init_23 : decode cX2_init 23 = .ok (.putfield 18, 3) := by decide +kernel
theorem dX2_init_26 : decode cX2_init 26 = .ok (.aload_n 0, 1) := by decide +kernel
theorem dX2_init_27 : decode cX2_init 27 = .ok (.new 9, 3) := by decide +kernel
theorem dX2_init_30 : decode cX2_init 30 = .ok (.dup, 1) := by decide +kernel
theorem dX2_init_31 : decode cX2_init 31 = .ok (.invokespecial 11, 3) := by decide +kernel
theorem dX2_init_34 : decode cX2_init 34 = .ok (.putfield 21, 3) := by decide +kernel
theorem dX2_init_37 : decode cX2_init 37 = .ok (.aload_n 0, 1) := by decide +kernel
theorem dX2_init_38 : decode cX2_init 38 = .ok (.new 9, 3) := by decide +kernel
theorem dX2_init_41 : decode cX2_init 41 = .ok (.dup, 1) := by decide +kernel
theorem dX2_init_42 : decode cX2_init 42 = .ok (.invokespecial 11, 3) := by decide +kernel
theorem dX2_init_45 : decode cX2_init 45 = .ok (.putfield 24, 3) := by decide +kernel
theorem dX2_init_48 : decode cX2_init 48 = .ok (.aload_n 0, 1) := by decide +kernel
theorem dX2_init_49 : decode cX2_init 49 = .ok (.iconst 0, 1) := by decide +kernel
theorem dX2_init_50 : decode cX2_init 50 = .ok (.putfield 27, 3) := by decide +kernel
theorem dX2_init_53 : decode cX2_init 53 = .ok (.return_, 1) := by decide +kernel
theorem dX2_size_0 : decode cX2_size 0 = .ok (.aload_n 0, 1) := by decide +kernel
theorem dX2_size_1 : decode cX2_size 1 = .ok (.getfield 27, 3) := by decide +kernel
theorem dX2_size_4 : decode cX2_size 4 = .ok (.ireturn, 1) := by decide +kernel
set_option maxRecDepth 20000 in
theorem ggX2_keep_X6_copyFrom : GoodIn wsX2_keep wsX6_copyFrom := goodIn_r _ [14, 15, 16, 17, 18, 19, 20, 21, 22, 23, 24, 25, 26, 27, 28, 29, 30, 31, 32, 33, 34, 35, 36, 37, 38, 39, 40, 41, 42, 43, 44, 45, 46, 47, 48, 49, 55, 56, 57, 58, 59, 60, 61, 62, 63, 64, 65, 66, 67, 68] (by decide +kernel) (by decide +kernel)
set_option maxRecDepth 20000 in
theorem gX2_keep_X6_copyFrom : GoodIn wsX2_keep (wsV RX2 31 RX6 yX6_copyFrom wsX6_copyFrom) := goodIn_app (goodIn_of _ (by decide +kernel)) ggX2_keep_X6_copyFrom
theorem dX2_keep_0 : decode cX2_keep 0 = .ok (.aload_n 0, 1) := by decide +kernel
theorem dX2_keep_1 : decode cX2_keep 1 = .ok (.getfield 24, 3) := by decide +kernel
theorem dX2_keep_4 : decode cX2_keep 4 = .ok (.aload_n 0, 1) := by decide +kernel
theorem dX2_keep_5 : decode cX2_keep 5 = .ok (.getfield 21, 3) := by decide +kernel
theorem dX2_keep_8 : decode cX2_keep 8 = .ok (.invokevirtual 31, 3) := by decide +kernel
theorem dX2_keep_11 : decode cX2_keep 11 = .ok (.aload_n 0, 1) := by decide +kernel
theorem dX2_keep_12 : decode cX2_keep 12 = .ok (.getfield 21, 3) := by decide +kernel
theorem dX2_keep_15 : decode cX2_keep 15 = .ok (.aload_n 0, 1) := by decide +kernel
theorem dX2_keep_16 : decode cX2_keep 16 = .ok (.getfield 18, 3) := by decide +kernel
theorem dX2_keep_19 : decode cX2_keep 19 = .ok (.invokevirtual 31, 3) := by decide +kernel
theorem dX2_keep_22 : decode cX2_keep 22 = .ok (.aload_n 0, 1) := by decide +kernel
theorem dX2_keep_23 : decode cX2_keep 23 = .ok (.getfield 18, 3) := by decide +kernel
theorem dX2_keep_26 : decode cX2_keep 26 = .ok (.aload_n 0, 1) := by decide +kernel
theorem dX2_keep_27 : decode cX2_keep 27 = .ok (.getfield 12, 3) := by decide +kernel
theorem dX2_keep_30 : decode cX2_keep 30 = .ok (.invokevirtual 31, 3) := by decide +kernel
theorem dX2_keep_33 : decode cX2_keep 33 = .ok (.aload_n 0, 1) := by decide +kernel
theorem dX2_keep_34 : decode cX2_keep 34 = .ok (.getfield 12, 3) := by decide +kernel
theorem dX2_keep_37 : decode cX2_keep 37 = .ok (.aload_n 1, 1) := by decide +kernel
theorem dX2_keep_38 : decode cX2_keep 38 = .ok (.invokevirtual 31, 3) := by decide +kernel
theorem dX2_keep_41 : decode cX2_keep 41 = .ok (.aload_n 0, 1) := by decide +kernel
theorem dX2_keep_42 : decode cX2_keep 42 = .ok (.aload_n 0, 1) := by decide +kernel
theorem dX2_keep_43 : decode cX2_keep 43 = .ok (.getfield 27, 3) := by decide +kernel
theorem dX2_keep_46 : decode cX2_keep 46 = .ok (.iconst 1, 1) := by decide +kernel
theorem dX2_keep_47 : decode cX2_keep 47 = .ok (.iadd, 1) := by decide +kernel
theorem dX2_keep_48 : decode cX2_keep 48 = .ok (.iconst 4, 1) := by decide +kernel
theorem dX2_keep_49 : decode cX2_keep 49 = .ok (.invokestatic 35, 3) := by decide +kernel
theorem dX2_keep_52 : decode cX2_keep 52 = .ok (.putfield 27, 3) := by decide +kernel
theorem dX2_keep_55 : decode cX2_keep 55 = .ok (.return_, 1) := by decide +kernel
set_option maxRecDepth 20000 in
theorem ggX3_init_X3_fill : GoodIn wsX3_init wsX3_fill := goodIn_r _ [14, 9, 15] (by decide +kernel) (by decide +kernel)
set_option maxRecDepth 20000 in
theorem gX3_init_X3_fill : GoodIn wsX3_init (wsV RX3 19 RX3 yX3_fill wsX3_fill) := goodIn_app (goodIn_of _ (by decide +kernel)) ggX3_init_X3_fill
theorem dX3_init_0 : decode cX3_init 0 = .ok (.aload_n 0, 1) := by decide +kernel
theorem dX3_init_1 : decode cX3_init 1 = .ok (.invokespecial 1, 3) := by decide +kernel
theorem dX3_init_4 : decode cX3_init 4 = .ok (.aload_n 0, 1) := by decide +kernel
theorem dX3_init_5 : decode cX3_init 5 = .ok (.iload_n 1, 1) := by decide +kernel
theorem dX3_init_6 : decode cX3_init 6 = .ok (.iconst 0, 1) := by decide +kernel
theorem dX3_init_7 : decode cX3_init 7 = .ok (.invokestatic 7, 3) := by decide +kernel
theorem dX3_init_10 : decode cX3_init 10 = .ok (.newarray .int, 2) := by decide +kernel
theorem dX3_init_12 : decode cX3_init 12 = .ok (.putfield 13, 3) := by decide +kernel
theorem dX3_init_15 : decode cX3_init 15 = .ok (.aload_n 0, 1) := by decide +kernel
theorem dX3_init_16 : decode cX3_init 16 = .ok (.iload_n 2, 1) := by decide +kernel
theorem dX3_init_17 : decode cX3_init 17 = .ok (.invokevirtual 19, 3) := by decide +kernel
theorem dX3_init_20 : decode cX3_init 20 = .ok (.return_, 1) := by decide +kernel
theorem dX3_at_0 : decode cX3_at 0 = .ok (.iload_n 1, 1) := by decide +kernel
theorem dX3_at_1 : decode cX3_at 1 = .ok (.ifCond .lt 21, 3) := by decide +kernel
theorem dX3_at_4 : decode cX3_at 4 = .ok (.iload_n 1, 1) := by decide +kernel
theorem dX3_at_5 : decode cX3_at 5 = .ok (.aload_n 0, 1) := by decide +kernel
theorem dX3_at_6 : decode cX3_at 6 = .ok (.getfield 13, 3) := by decide +kernel
theorem dX3_at_9 : decode cX3_at 9 = .ok (.arraylength, 1) := by decide +kernel
theorem dX3_at_10 : decode cX3_at 10 = .ok (.if_icmp .ge 12, 3) := by decide +kernel
theorem dX3_at_13 : decode cX3_at 13 = .ok (.aload_n 0, 1) := by decide +kernel
theorem dX3_at_14 : decode cX3_at 14 = .ok (.getfield 13, 3) := by decide +kernel
theorem dX3_at_17 : decode cX3_at 17 = .ok (.iload_n 1, 1) := by decide +kernel
theorem dX3_at_18 : decode cX3_at 18 = .ok (.iaload, 1) := by decide +kernel
theorem dX3_at_19 : decode cX3_at 19 = .ok (.goto 4, 3) := by decide +kernel
theorem dX3_at_22 : decode cX3_at 22 = .ok (.iconst 0, 1) := by decide +kernel
theorem dX3_at_23 : decode cX3_at 23 = .ok (.ireturn, 1) := by decide +kernel
theorem dX3_set_0 : decode cX3_set 0 = .ok (.iload_n 1, 1) := by decide +kernel
theorem dX3_set_1 : decode cX3_set 1 = .ok (.ifCond .lt 19, 3) := by decide +kernel
theorem dX3_set_4 : decode cX3_set 4 = .ok (.iload_n 1, 1) := by decide +kernel
theorem dX3_set_5 : decode cX3_set 5 = .ok (.aload_n 0, 1) := by decide +kernel
theorem dX3_set_6 : decode cX3_set 6 = .ok (.getfield 13, 3) := by decide +kernel
theorem dX3_set_9 : decode cX3_set 9 = .ok (.arraylength, 1) := by decide +kernel
theorem dX3_set_10 : decode cX3_set 10 = .ok (.if_icmp .ge 10, 3) := by decide +kernel
theorem dX3_set_13 : decode cX3_set 13 = .ok (.aload_n 0, 1) := by decide +kernel
theorem dX3_set_14 : decode cX3_set 14 = .ok (.getfield 13, 3) := by decide +kernel
theorem dX3_set_17 : decode cX3_set 17 = .ok (.iload_n 1, 1) := by decide +kernel
theorem dX3_set_18 : decode cX3_set 18 = .ok (.iload_n 2, 1) := by decide +kernel
theorem dX3_set_19 : decode cX3_set 19 = .ok (.iastore, 1) := by decide +kernel
theorem dX3_set_20 : decode cX3_set 20 = .ok (.return_, 1) := by decide +kernel
theorem dX3_fill_0 : decode cX3_fill 0 = .ok (.iconst 0, 1) := by decide +kernel
theorem dX3_fill_1 : decode cX3_fill 1 = .ok (.istore_n 2, 1) := by decide +kernel
theorem dX3_fill_2 : decode cX3_fill 2 = .ok (.iload_n 2, 1) := by decide +kernel
theorem dX3_fill_3 : decode cX3_fill 3 = .ok (.aload_n 0, 1) := by decide +kernel
theorem dX3_fill_4 : decode cX3_fill 4 = .ok (.getfield 13, 3) := by decide +kernel
theorem dX3_fill_7 : decode cX3_fill 7 = .ok (.arraylength, 1) := by decide +kernel
theorem dX3_fill_8 : decode cX3_fill 8 = .ok (.if_icmp .ge 16, 3) := by decide +kernel
theorem dX3_fill_11 : decode cX3_fill 11 = .ok (.aload_n 0, 1) := by decide +kernel
theorem dX3_fill_12 : decode cX3_fill 12 = .ok (.getfield 13, 3) := by decide +kernel
theorem dX3_fill_15 : decode cX3_fill 15 = .ok (.iload_n 2, 1) := by decide +kernel
theorem dX3_fill_16 : decode cX3_fill 16 = .ok (.iload_n 1, 1) := by decide +kernel
theorem dX3_fill_17 : decode cX3_fill 17 = .ok (.iastore, 1) := by decide +kernel
theorem dX3_fill_18 : decode cX3_fill 18 = .ok (.iinc 2 1, 3) := by decide +kernel
theorem dX3_fill_21 : decode cX3_fill 21 = .ok (.goto (-19), 3) := by decide +kernel
theorem dX3_fill_24 : decode cX3_fill 24 = .ok (.return_, 1) := by decide +kernel
set_option maxRecDepth 20000 in
theorem ggX3_copyFrom_X3_at : GoodIn wsX3_copyFrom wsX3_at := goodIn_r _ [6, 1, 7] (by decide +kernel) (by decide +kernel)
set_option maxRecDepth 20000 in
theorem gX3_copyFrom_X3_at : GoodIn wsX3_copyFrom (wsV RX3 23 RX3 yX3_at wsX3_at) := goodIn_app (goodIn_of _ (by decide +kernel)) ggX3_copyFrom_X3_at
theorem dX3_copyFrom_0 : decode cX3_copyFrom 0 = .ok (.iconst 0, 1) := by decide +kernel
theorem dX3_copyFrom_1 : decode cX3_copyFrom 1 = .ok (.istore_n 2, 1) := by decide +kernel
theorem dX3_copyFrom_2 : decode cX3_copyFrom 2 = .ok (.iload_n 2, 1) := by decide +kernel
theorem dX3_copyFrom_3 : decode cX3_copyFrom 3 = .ok (.aload_n 0, 1) := by decide +kernel
theorem dX3_copyFrom_4 : decode cX3_copyFrom 4 = .ok (.getfield 13, 3) := by decide +kernel
theorem dX3_copyFrom_7 : decode cX3_copyFrom 7 = .ok (.arraylength, 1) := by decide +kernel
theorem dX3_copyFrom_8 : decode cX3_copyFrom 8 = .ok (.if_icmp .ge 20, 3) := by decide +kernel
theorem dX3_copyFrom_11 : decode cX3_copyFrom 11 = .ok (.aload_n 0, 1) := by decide +kernel
theorem dX3_copyFrom_12 : decode cX3_copyFrom 12 = .ok (.getfield 13, 3) := by decide +kernel
theorem dX3_copyFrom_15 : decode cX3_copyFrom 15 = .ok (.iload_n 2, 1) := by decide +kernel
theorem dX3_copyFrom_16 : decode cX3_copyFrom 16 = .ok (.aload_n 1, 1) := by decide +kernel
theorem dX3_copyFrom_17 : decode cX3_copyFrom 17 = .ok (.iload_n 2, 1) := by decide +kernel
theorem dX3_copyFrom_18 : decode cX3_copyFrom 18 = .ok (.invokevirtual 23, 3) := by decide +kernel
theorem dX3_copyFrom_21 : decode cX3_copyFrom 21 = .ok (.iastore, 1) := by decide +kernel
theorem dX3_copyFrom_22 : decode cX3_copyFrom 22 = .ok (.iinc 2 1, 3) := by decide +kernel
theorem dX3_copyFrom_25 : decode cX3_copyFrom 25 = .ok (.goto (-23), 3) := by decide +kernel
theorem dX3_copyFrom_28 : decode cX3_copyFrom 28 = .ok (.return_, 1) := by decide +kernel
set_option maxRecDepth 20000 in
theorem ggX4_init_X1_init : GoodIn wsX4_init wsX1_init := goodIn_r _ [14, 15, 2, 3, 16, 17, 18, 19, 20, 21, 22, 23, 24, 25, 26, 27, 28, 29, 30, 31, 32, 33, 34, 35, 45, 36, 37, 38] (by decide +kernel) (by decide +kernel)
set_option maxRecDepth 20000 in
theorem gX4_init_X1_init_n11 : GoodIn wsX4_init (wsX1_init) := ggX4_init_X1_init
theorem dX4_init_0 : decode cX4_init 0 = .ok (.aload_n 0, 1) := by decide +kernel
theorem dX4_init_1 : decode cX4_init 1 = .ok (.invokespecial 3, 3) := by decide +kernel
theorem dX4_init_4 : decode cX4_init 4 = .ok (.aload_n 0, 1) := by decide +kernel
theorem dX4_init_5 : decode cX4_init 5 = .ok (.new 9, 3) := by decide +kernel
theorem dX4_init_8 : decode cX4_init 8 = .ok (.dup, 1) := by decide +kernel
theorem dX4_init_9 : decode cX4_init 9 = .ok (.invokespecial 11, 3) := by decide +kernel
theorem dX4_init_12 : decode cX4_init 12 = .ok (.putfield 12, 3) := by decide +kernel
theorem dX4_init_15 : decode cX4_init 15 = .ok (.aload_n 0, 1) := by decide +kernel
theorem dX4_init_16 : decode cX4_init 16 = .ok (.iconst 0, 1) := by decide +kernel
theorem dX4_init_17 : decode cX4_init 17 = .ok (.putfield 18, 3) := by decide +kernel
theorem dX4_init_20 : decode cX4_init 20 = .ok (.aload_n 0, 1) := by decide +kernel
theorem dX4_init_21 : decode cX4_init 21 = .ok (.iconst 0, 1) := by decide +kernel
theorem dX4_init_22 : decode cX4_init 22 = .ok (.putfield 22, 3) := by decide +kernel
theorem dX4_init_25 : decode cX4_init 25 = .ok (.aload_n 0, 1) := by decide +kernel
theorem dX4_init_26 : decode cX4_init 26 = .ok (.iconst 0, 1) := by decide +kernel
theorem dX4_init_27 : decode cX4_init 27 = .ok (.putfield 25, 3) := by decide +kernel
theorem dX4_init_30 : decode cX4_init 30 = .ok (.aload_n 0, 1) := by decide +kernel
theorem dX4_init_31 : decode cX4_init 31 = .ok (.iconst 0, 1) := by decide +kernel
theorem dX4_init_32 : decode cX4_init 32 = .ok (.putfield 28, 3) := by decide +kernel
theorem dX4_init_35 : decode cX4_init 35 = .ok (.aload_n 0, 1) := by decide +kernel
theorem dX4_init_36 : decode cX4_init 36 = .ok (.aload_n 1, 1) := by decide +kernel
theorem dX4_init_37 : decode cX4_init 37 = .ok (.putfield 31, 3) := by decide +kernel
theorem dX4_init_40 : decode cX4_init 40 = .ok (.return_, 1) := by decide +kernel
theorem dX4_hasFault_0 : decode cX4_hasFault 0 = .ok (.aload_n 0, 1) := by decide +kernel
theorem dX4_hasFault_1 : decode cX4_hasFault 1 = .ok (.getfield 28, 3) := by decide +kernel
theorem dX4_hasFault_4 : decode cX4_hasFault 4 = .ok (.ifCond .eq 7, 3) := by decide +kernel
theorem dX4_hasFault_7 : decode cX4_hasFault 7 = .ok (.iconst 1, 1) := by decide +kernel
theorem dX4_hasFault_8 : decode cX4_hasFault 8 = .ok (.goto 4, 3) := by decide +kernel
theorem dX4_hasFault_11 : decode cX4_hasFault 11 = .ok (.iconst 0, 1) := by decide +kernel
theorem dX4_hasFault_12 : decode cX4_hasFault 12 = .ok (.ireturn, 1) := by decide +kernel
theorem dX4_faultPlace_0 : decode cX4_faultPlace 0 = .ok (.aload_n 0, 1) := by decide +kernel
theorem dX4_faultPlace_1 : decode cX4_faultPlace 1 = .ok (.getfield 25, 3) := by decide +kernel
theorem dX4_faultPlace_4 : decode cX4_faultPlace 4 = .ok (.ireturn, 1) := by decide +kernel
theorem dX4_faultReason_0 : decode cX4_faultReason 0 = .ok (.aload_n 0, 1) := by decide +kernel
theorem dX4_faultReason_1 : decode cX4_faultReason 1 = .ok (.getfield 28, 3) := by decide +kernel
theorem dX4_faultReason_4 : decode cX4_faultReason 4 = .ok (.ireturn, 1) := by decide +kernel
theorem dX4_cells_0 : decode cX4_cells 0 = .ok (.aload_n 0, 1) := by decide +kernel
theorem dX4_cells_1 : decode cX4_cells 1 = .ok (.getfield 18, 3) := by decide +kernel
theorem dX4_cells_4 : decode cX4_cells 4 = .ok (.ireturn, 1) := by decide +kernel
theorem dX4_example_0 : decode cX4_example 0 = .ok (.aload_n 0, 1) := by decide +kernel
theorem dX4_example_1 : decode cX4_example 1 = .ok (.getfield 12, 3) := by decide +kernel
theorem dX4_example_4 : decode cX4_example 4 = .ok (.areturn, 1) := by decide +kernel
set_option maxRecDepth 20000 in
theorem ggX4_start_X1_wipe : GoodIn wsX4_start wsX1_wipe := goodIn_r _ [11, 12, 13, 14, 15, 16, 17, 18, 19, 20, 85, 86, 87, 88] (by decide +kernel) (by decide +kernel)
set_option maxRecDepth 20000 in
theorem gX4_start_X1_wipe : GoodIn wsX4_start (wsV RX4 35 RX1 yX1_wipe wsX1_wipe) := goodIn_app (goodIn_of _ (by decide +kernel)) ggX4_start_X1_wipe
set_option maxRecDepth 20000 in
theorem ggX4_start_X7_characterAt : GoodIn wsX4_start wsX7_characterAt := goodIn_r _ [25, 26, 27, 28, 29, 30, 18, 31, 20, 89, 90, 88] (by decide +kernel) (by decide +kernel)
set_option maxRecDepth 20000 in
theorem gX4_start_X7_characterAt : GoodIn wsX4_start (wsV RX4 38 RX7 yX7_characterAt wsX7_characterAt) := goodIn_app (goodIn_of _ (by decide +kernel)) ggX4_start_X7_characterAt
set_option maxRecDepth 20000 in
theorem ggX4_start_X4_readCell : GoodIn wsX4_start wsX4_readCell := goodIn_r _ [36, 3, 1, 2, 37, 38, 35, 39, 40, 41, 42, 43, 6, 44, 45, 46, 47, 21, 22, 23, 24, 25, 26, 27, 28, 29, 30, 18, 31, 20, 48, 49, 50, 51, 4, 5, 52, 53, 54, 10, 55, 12, 13, 14, 56, 57, 58, 59, 60, 61, 62, 63, 64, 65, 66, 67, 68, 69, 70, 79, 80, 81, 82, 83, 84, 89, 90, 88, 85, 86, 87] (by decide +kernel) (by decide +kernel)
set_option maxRecDepth 20000 in
theorem gX4_start_X4_readCell : GoodIn wsX4_start (wsV RX4 44 RX4 yX4_readCell wsX4_readCell) := goodIn_app (goodIn_of _ (by decide +kernel)) ggX4_start_X4_readCell
set_option maxRecDepth 20000 in
theorem ggX4_start_X4_hasFault : GoodIn wsX4_start wsX4_hasFault := goodIn_r _ [63, 5, 79, 80, 81, 82, 83, 84] (by decide +kernel) (by decide +kernel)
set_option maxRecDepth 20000 in
theorem gX4_start_X4_hasFault : GoodIn wsX4_start (wsV RX4 48 RX4 yX4_hasFault wsX4_hasFault) := goodIn_app (goodIn_of _ (by decide +kernel)) ggX4_start_X4_hasFault
set_option maxRecDepth 20000 in
theorem ggX4_start_X4_readComma : GoodIn wsX4_start wsX4_readComma := goodIn_r _ [74, 3, 6, 2, 75, 76, 77, 24, 78, 26, 21, 22, 23, 25, 27, 28, 29, 30, 18, 31, 20, 48, 49, 50, 35, 51, 4, 5, 60, 61, 62, 63, 79, 80, 81, 82, 83, 84, 89, 90, 88] (by decide +kernel) (by decide +kernel)
set_option maxRecDepth 20000 in
theorem gX4_start_X4_readComma : GoodIn wsX4_start (wsV RX4 52 RX4 yX4_readComma wsX4_readComma) := goodIn_app (goodIn_of _ (by decide +kernel)) ggX4_start_X4_readComma
theorem dX4_start_0 : decode cX4_start 0 = .ok (.aload_n 0, 1) := by decide +kernel
theorem dX4_start_1 : decode cX4_start 1 = .ok (.getfield 12, 3) := by decide +kernel
theorem dX4_start_4 : decode cX4_start 4 = .ok (.invokevirtual 35, 3) := by decide +kernel
theorem dX4_start_7 : decode cX4_start 7 = .ok (.aload_n 0, 1) := by decide +kernel
theorem dX4_start_8 : decode cX4_start 8 = .ok (.iconst 0, 1) := by decide +kernel
theorem dX4_start_9 : decode cX4_start 9 = .ok (.putfield 18, 3) := by decide +kernel
theorem dX4_start_12 : decode cX4_start 12 = .ok (.aload_n 0, 1) := by decide +kernel
theorem dX4_start_13 : decode cX4_start 13 = .ok (.iconst 0, 1) := by decide +kernel
theorem dX4_start_14 : decode cX4_start 14 = .ok (.putfield 22, 3) := by decide +kernel
theorem dX4_start_17 : decode cX4_start 17 = .ok (.aload_n 0, 1) := by decide +kernel
theorem dX4_start_18 : decode cX4_start 18 = .ok (.iconst 0, 1) := by decide +kernel
theorem dX4_start_19 : decode cX4_start 19 = .ok (.putfield 25, 3) := by decide +kernel
theorem dX4_start_22 : decode cX4_start 22 = .ok (.aload_n 0, 1) := by decide +kernel
theorem dX4_start_23 : decode cX4_start 23 = .ok (.iconst 0, 1) := by decide +kernel
theorem dX4_start_24 : decode cX4_start 24 = .ok (.putfield 28, 3) := by decide +kernel
theorem dX4_start_27 : decode cX4_start 27 = .ok (.iconst 1, 1) := by decide +kernel
theorem dX4_start_28 : decode cX4_start 28 = .ok (.istore_n 1, 1) := by decide +kernel
theorem dX4_start_29 : decode cX4_start 29 = .ok (.iload_n 1, 1) := by decide +kernel
theorem dX4_start_30 : decode cX4_start 30 = .ok (.ifCond .eq 59, 3) := by decide +kernel
theorem dX4_start_33 : decode cX4_start 33 = .ok (.aload_n 0, 1) := by decide +kernel
theorem dX4_start_34 : decode cX4_start 34 = .ok (.getfield 18, 3) := by decide +kernel
theorem dX4_start_37 : decode cX4_start 37 = .ok (.iconst 4, 1) := by decide +kernel
theorem dX4_start_38 : decode cX4_start 38 = .ok (.if_icmp .ge 51, 3) := by decide +kernel
theorem dX4_start_41 : decode cX4_start 41 = .ok (.aload_n 0, 1) := by decide +kernel
theorem dX4_start_42 : decode cX4_start 42 = .ok (.aload_n 0, 1) := by decide +kernel
theorem dX4_start_43 : decode cX4_start 43 = .ok (.getfield 31, 3) := by decide +kernel
theorem dX4_start_46 : decode cX4_start 46 = .ok (.aload_n 0, 1) := by decide +kernel
theorem dX4_start_47 : decode cX4_start 47 = .ok (.getfield 22, 3) := by decide +kernel
theorem dX4_start_50 : decode cX4_start 50 = .ok (.invokevirtual 38, 3) := by decide +kernel
theorem dX4_start_53 : decode cX4_start 53 = .ok (.invokevirtual 44, 3) := by decide +kernel
theorem dX4_start_56 : decode cX4_start 56 = .ok (.aload_n 0, 1) := by decide +kernel
theorem dX4_start_57 : decode cX4_start 57 = .ok (.dup, 1) := by decide +kernel
theorem dX4_start_58 : decode cX4_start 58 = .ok (.getfield 18, 3) := by decide +kernel
theorem dX4_start_61 : decode cX4_start 61 = .ok (.iconst 1, 1) := by decide +kernel
theorem dX4_start_62 : decode cX4_start 62 = .ok (.iadd, 1) := by decide +kernel
theorem dX4_start_63 : decode cX4_start 63 = .ok (.putfield 18, 3) := by decide +kernel
theorem dX4_start_66 : decode cX4_start 66 = .ok (.aload_n 0, 1) := by decide +kernel
theorem dX4_start_67 : decode cX4_start 67 = .ok (.invokevirtual 48, 3) := by decide +kernel
theorem dX4_start_70 : decode cX4_start 70 = .ok (.ifCond .ne 14, 3) := by decide +kernel
theorem dX4_start_73 : decode cX4_start 73 = .ok (.aload_n 0, 1) := by decide +kernel
theorem dX4_start_74 : decode cX4_start 74 = .ok (.invokevirtual 52, 3) := by decide +kernel
theorem dX4_start_77 : decode cX4_start 77 = .ok (.ifCond .eq 7, 3) := by decide +kernel
theorem dX4_start_80 : decode cX4_start 80 = .ok (.iconst 1, 1) := by decide +kernel
theorem dX4_start_81 : decode cX4_start 81 = .ok (.goto 4, 3) := by decide +kernel
theorem dX4_start_84 : decode cX4_start 84 = .ok (.iconst 0, 1) := by decide +kernel
theorem dX4_start_85 : decode cX4_start 85 = .ok (.istore_n 1, 1) := by decide +kernel
theorem dX4_start_86 : decode cX4_start 86 = .ok (.goto (-57), 3) := by decide +kernel
theorem dX4_start_89 : decode cX4_start 89 = .ok (.return_, 1) := by decide +kernel
set_option maxRecDepth 20000 in
theorem ggX4_readComma_X7_length : GoodIn wsX4_readComma wsX7_length := goodIn_r _ [8, 9, 38, 39] (by decide +kernel) (by decide +kernel)
set_option maxRecDepth 20000 in
theorem gX4_readComma_X7_length : GoodIn wsX4_readComma (wsV RX4 55 RX7 yX7_length wsX7_length) := goodIn_app (goodIn_of _ (by decide +kernel)) ggX4_readComma_X7_length
set_option maxRecDepth 20000 in
theorem ggX4_readComma_X7_characterAt : GoodIn wsX4_readComma wsX7_characterAt := goodIn_r _ [13, 9, 14, 15, 16, 17, 18, 19, 20, 38, 39, 40] (by decide +kernel) (by decide +kernel)
set_option maxRecDepth 20000 in
theorem gX4_readComma_X7_characterAt : GoodIn wsX4_readComma (wsV RX4 38 RX7 yX7_characterAt wsX7_characterAt) := goodIn_app (goodIn_of _ (by decide +kernel)) ggX4_readComma_X7_characterAt
set_option maxRecDepth 20000 in
theorem ggX4_readComma_X4_fail : GoodIn wsX4_readComma wsX4_fail := goodIn_r _ [25, 26, 27, 32, 33, 34, 35, 36, 37] (by decide +kernel) (by decide +kernel)
set_option maxRecDepth 20000 in
theorem gX4_readComma_X4_fail : GoodIn wsX4_readComma (wsV RX4 59 RX4 yX4_fail wsX4_fail) := goodIn_app (goodIn_of _ (by decide +kernel)) ggX4_readComma_X4_fail
set_option maxRecDepth 20000 in
theorem ggX4_readComma_X4_hasFault : GoodIn wsX4_readComma wsX4_hasFault := goodIn_r _ [31, 27, 32, 33, 34, 35, 36, 37] (by decide +kernel) (by decide +kernel)
set_option maxRecDepth 20000 in
theorem gX4_readComma_X4_hasFault : GoodIn wsX4_readComma (wsV RX4 48 RX4 yX4_hasFault wsX4_hasFault) := goodIn_app (goodIn_of _ (by decide +kernel)) ggX4_readComma_X4_hasFault
theorem dX4_readComma_0 : decode cX4_readComma 0 = .ok (.aload_n 0, 1) := by decide +kernel
theorem dX4_readComma_1 : decode cX4_readComma 1 = .ok (.getfield 22, 3) := by decide +kernel
theorem dX4_readComma_4 : decode cX4_readComma 4 = .ok (.aload_n 0, 1) := by decide +kernel
theorem dX4_readComma_5 : decode cX4_readComma 5 = .ok (.getfield 31, 3) := by decide +kernel
theorem dX4_readComma_8 : decode cX4_readComma 8 = .ok (.invokevirtual 55, 3) := by decide +kernel
theorem dX4_readComma_11 : decode cX4_readComma 11 = .ok (.if_icmp .lt 5, 3) := by decide +kernel
theorem dX4_readComma_14 : decode cX4_readComma 14 = .ok (.iconst 0, 1) := by decide +kernel
theorem dX4_readComma_15 : decode cX4_readComma 15 = .ok (.ireturn, 1) := by decide +kernel
theorem dX4_readComma_16 : decode cX4_readComma 16 = .ok (.aload_n 0, 1) := by decide +kernel
theorem dX4_readComma_17 : decode cX4_readComma 17 = .ok (.getfield 31, 3) := by decide +kernel
theorem dX4_readComma_20 : decode cX4_readComma 20 = .ok (.aload_n 0, 1) := by decide +kernel
theorem dX4_readComma_21 : decode cX4_readComma 21 = .ok (.getfield 22, 3) := by decide +kernel
theorem dX4_readComma_24 : decode cX4_readComma 24 = .ok (.invokevirtual 38, 3) := by decide +kernel
theorem dX4_readComma_27 : decode cX4_readComma 27 = .ok (.bipush 44, 2) := by decide +kernel
theorem dX4_readComma_29 : decode cX4_readComma 29 = .ok (.if_icmp .eq 15, 3) := by decide +kernel
theorem dX4_readComma_32 : decode cX4_readComma 32 = .ok (.aload_n 0, 1) := by decide +kernel
theorem dX4_readComma_33 : decode cX4_readComma 33 = .ok (.aload_n 0, 1) := by decide +kernel
theorem dX4_readComma_34 : decode cX4_readComma 34 = .ok (.getfield 22, 3) := by decide +kernel
theorem dX4_readComma_37 : decode cX4_readComma 37 = .ok (.iconst 1, 1) := by decide +kernel
theorem dX4_readComma_38 : decode cX4_readComma 38 = .ok (.invokevirtual 59, 3) := by decide +kernel
theorem dX4_readComma_41 : decode cX4_readComma 41 = .ok (.goto 20, 3) := by decide +kernel
theorem dX4_readComma_44 : decode cX4_readComma 44 = .ok (.aload_n 0, 1) := by decide +kernel
theorem dX4_readComma_45 : decode cX4_readComma 45 = .ok (.getfield 18, 3) := by decide +kernel
theorem dX4_readComma_48 : decode cX4_readComma 48 = .ok (.iconst 4, 1) := by decide +kernel
theorem dX4_readComma_49 : decode cX4_readComma 49 = .ok (.if_icmp .lt 12, 3) := by decide +kernel
theorem dX4_readComma_52 : decode cX4_readComma 52 = .ok (.aload_n 0, 1) := by decide +kernel
theorem dX4_readComma_53 : decode cX4_readComma 53 = .ok (.aload_n 0, 1) := by decide +kernel
theorem dX4_readComma_54 : decode cX4_readComma 54 = .ok (.getfield 22, 3) := by decide +kernel
theorem dX4_readComma_57 : decode cX4_readComma 57 = .ok (.iconst 3, 1) := by decide +kernel
theorem dX4_readComma_58 : decode cX4_readComma 58 = .ok (.invokevirtual 59, 3) := by decide +kernel
theorem dX4_readComma_61 : decode cX4_readComma 61 = .ok (.aload_n 0, 1) := by decide +kernel
theorem dX4_readComma_62 : decode cX4_readComma 62 = .ok (.dup, 1) := by decide +kernel
theorem dX4_readComma_63 : decode cX4_readComma 63 = .ok (.getfield 22, 3) := by decide +kernel
theorem dX4_readComma_66 : decode cX4_readComma 66 = .ok (.iconst 1, 1) := by decide +kernel
theorem dX4_readComma_67 : decode cX4_readComma 67 = .ok (.iadd, 1) := by decide +kernel
theorem dX4_readComma_68 : decode cX4_readComma 68 = .ok (.putfield 22, 3) := by decide +kernel
theorem dX4_readComma_71 : decode cX4_readComma 71 = .ok (.aload_n 0, 1) := by decide +kernel
theorem dX4_readComma_72 : decode cX4_readComma 72 = .ok (.invokevirtual 48, 3) := by decide +kernel
theorem dX4_readComma_75 : decode cX4_readComma 75 = .ok (.ifCond .ne 7, 3) := by decide +kernel
theorem dX4_readComma_78 : decode cX4_readComma 78 = .ok (.iconst 1, 1) := by decide +kernel
theorem dX4_readComma_79 : decode cX4_readComma 79 = .ok (.goto 4, 3) := by decide +kernel
theorem dX4_readComma_82 : decode cX4_readComma 82 = .ok (.iconst 0, 1) := by decide +kernel
theorem dX4_readComma_83 : decode cX4_readComma 83 = .ok (.ireturn, 1) := by decide +kernel
set_option maxRecDepth 20000 in
theorem ggX4_readCell_X4_isDigit : GoodIn wsX4_readCell wsX4_isDigit := goodIn_r _ [7] (by decide +kernel) (by decide +kernel)
set_option maxRecDepth 20000 in
theorem gX4_readCell_X4_isDigit : GoodIn wsX4_readCell (va_wsS RX4 63 yX4_isDigit wsX4_isDigit) := goodIn_app (goodIn_of _ (by decide +kernel)) ggX4_readCell_X4_isDigit
set_option maxRecDepth 20000 in
theorem ggX4_readCell_X4_readNumbers : GoodIn wsX4_readCell wsX4_readNumbers := goodIn_r _ [11, 1, 12, 2, 3, 13, 14, 15, 6, 16, 17, 18, 19, 20, 21, 22, 23, 24, 25, 26, 27, 28, 29, 4, 5, 7, 30, 31, 32, 33, 34, 35, 36, 37, 38, 39, 40, 41, 42, 43, 44, 45, 46, 47, 48, 49, 50, 51, 59, 60, 61, 62, 63, 64, 65, 66, 67, 68, 69, 70] (by decide +kernel) (by decide +kernel)
set_option maxRecDepth 20000 in
theorem gX4_readCell_X4_readNumbers : GoodIn wsX4_readCell (wsV RX4 67 RX4 yX4_readNumbers wsX4_readNumbers) := goodIn_app (goodIn_of _ (by decide +kernel)) ggX4_readCell_X4_readNumbers
set_option maxRecDepth 20000 in
theorem ggX4_readCell_X1_fill : GoodIn wsX4_readCell wsX1_fill := goodIn_r _ [40, 41, 42, 43, 44, 45, 46, 27, 47, 29, 68, 69, 70, 67] (by decide +kernel) (by decide +kernel)
set_option maxRecDepth 20000 in
theorem gX4_readCell_X1_fill : GoodIn wsX4_readCell (wsV RX4 70 RX1 yX1_fill wsX1_fill) := goodIn_app (goodIn_of _ (by decide +kernel)) ggX4_readCell_X1_fill
set_option maxRecDepth 20000 in
theorem ggX4_readCell_X4_readNumber : GoodIn wsX4_readCell wsX4_readNumber := goodIn_r _ [16, 12, 1, 17, 18, 19, 20, 21, 22, 23, 24, 25, 26, 27, 28, 29, 4, 5, 6, 7, 30, 31, 32, 33, 34, 35, 59, 60, 61, 62, 63, 64, 65, 66, 67] (by decide +kernel) (by decide +kernel)
set_option maxRecDepth 20000 in
theorem gX4_readCell_X4_readNumber : GoodIn wsX4_readCell (wsV RX4 74 RX4 yX4_readNumber wsX4_readNumber) := goodIn_app (goodIn_of _ (by decide +kernel)) ggX4_readCell_X4_readNumber
set_option maxRecDepth 20000 in
theorem ggX4_readCell_X4_readBound : GoodIn wsX4_readCell wsX4_readBound := goodIn_r _ [55, 12, 1, 2, 3, 17, 18, 19, 20, 21, 22, 23, 24, 25, 26, 27, 28, 29, 56, 57, 6, 58, 36, 37, 38, 39, 40, 41, 42, 43, 44, 45, 46, 47, 13, 14, 15, 16, 4, 5, 7, 30, 31, 32, 33, 34, 35, 59, 60, 61, 62, 63, 64, 65, 66, 67, 68, 69, 70] (by decide +kernel) (by decide +kernel)
set_option maxRecDepth 20000 in
theorem gX4_readCell_X4_readBound : GoodIn wsX4_readCell (wsV RX4 77 RX4 yX4_readBound wsX4_readBound) := goodIn_app (goodIn_of _ (by decide +kernel)) ggX4_readCell_X4_readBound
set_option maxRecDepth 20000 in
theorem ggX4_readCell_X4_isLetter : GoodIn wsX4_readCell wsX4_isLetter := goodIn_r _ [58] (by decide +kernel) (by decide +kernel)
set_option maxRecDepth 20000 in
theorem gX4_readCell_X4_isLetter : GoodIn wsX4_readCell (va_wsS RX4 80 yX4_isLetter wsX4_isLetter) := goodIn_app (goodIn_of _ (by decide +kernel)) ggX4_readCell_X4_isLetter
set_option maxRecDepth 20000 in
theorem ggX4_readCell_X4_fail : GoodIn wsX4_readCell wsX4_fail := goodIn_r _ [33, 34, 35, 59, 60, 61, 62, 63, 64] (by decide +kernel) (by decide +kernel)
set_option maxRecDepth 20000 in
theorem gX4_readCell_X4_fail : GoodIn wsX4_readCell (wsV RX4 59 RX4 yX4_fail wsX4_fail) := goodIn_app (goodIn_of _ (by decide +kernel)) ggX4_readCell_X4_fail
theorem dX4_readCell_0 : decode cX4_readCell 0 = .ok (.iload_n 1, 1) := by decide +kernel
theorem dX4_readCell_1 : decode cX4_readCell 1 = .ok (.invokestatic 63, 3) := by decide +kernel
theorem dX4_readCell_4 : decode cX4_readCell 4 = .ok (.ifCond .eq 8, 3) := by decide +kernel
theorem dX4_readCell_7 : decode cX4_readCell 7 = .ok (.aload_n 0, 1) := by decide +kernel
theorem dX4_readCell_8 : decode cX4_readCell 8 = .ok (.invokevirtual 67, 3) := by decide +kernel
theorem dX4_readCell_11 : decode cX4_readCell 11 = .ok (.return_, 1) := by decide +kernel
theorem dX4_readCell_12 : decode cX4_readCell 12 = .ok (.aload_n 0, 1) := by decide +kernel
theorem dX4_readCell_13 : decode cX4_readCell 13 = .ok (.getfield 22, 3) := by decide +kernel
theorem dX4_readCell_16 : decode cX4_readCell 16 = .ok (.istore_n 2, 1) := by decide +kernel
theorem dX4_readCell_17 : decode cX4_readCell 17 = .ok (.aload_n 0, 1) := by decide +kernel
theorem dX4_readCell_18 : decode cX4_readCell 18 = .ok (.dup, 1) := by decide +kernel
theorem dX4_readCell_19 : decode cX4_readCell 19 = .ok (.getfield 22, 3) := by decide +kernel
theorem dX4_readCell_22 : decode cX4_readCell 22 = .ok (.iconst 1, 1) := by decide +kernel
theorem dX4_readCell_23 : decode cX4_readCell 23 = .ok (.iadd, 1) := by decide +kernel
theorem dX4_readCell_24 : decode cX4_readCell 24 = .ok (.putfield 22, 3) := by decide +kernel
theorem dX4_readCell_27 : decode cX4_readCell 27 = .ok (.iload_n 1, 1) := by decide +kernel
theorem dX4_readCell_28 : decode cX4_readCell 28 = .ok (.lookupswitch 138 #[(33, 80), (35, 97), (42, 60), (60, 117), (62, 127), (95, 63)], 60) := by decide +kernel
theorem dX4_readCell_88 : decode cX4_readCell 88 = .ok (.goto 112, 3) := by decide +kernel
theorem dX4_readCell_91 : decode cX4_readCell 91 = .ok (.aload_n 0, 1) := by decide +kernel
theorem dX4_readCell_92 : decode cX4_readCell 92 = .ok (.getfield 12, 3) := by decide +kernel
theorem dX4_readCell_95 : decode cX4_readCell 95 = .ok (.aload_n 0, 1) := by decide +kernel
theorem dX4_readCell_96 : decode cX4_readCell 96 = .ok (.getfield 18, 3) := by decide +kernel
theorem dX4_readCell_99 : decode cX4_readCell 99 = .ok (.iconst 1, 1) := by decide +kernel
theorem dX4_readCell_100 : decode cX4_readCell 100 = .ok (.iconst 0, 1) := by decide +kernel
theorem dX4_readCell_101 : decode cX4_readCell 101 = .ok (.iconst 0, 1) := by decide +kernel
theorem dX4_readCell_102 : decode cX4_readCell 102 = .ok (.invokevirtual 70, 3) := by decide +kernel
theorem dX4_readCell_105 : decode cX4_readCell 105 = .ok (.goto 95, 3) := by decide +kernel
theorem dX4_readCell_108 : decode cX4_readCell 108 = .ok (.aload_n 0, 1) := by decide +kernel
theorem dX4_readCell_109 : decode cX4_readCell 109 = .ok (.getfield 12, 3) := by decide +kernel
theorem dX4_readCell_112 : decode cX4_readCell 112 = .ok (.aload_n 0, 1) := by decide +kernel
theorem dX4_readCell_113 : decode cX4_readCell 113 = .ok (.getfield 18, 3) := by decide +kernel
theorem dX4_readCell_116 : decode cX4_readCell 116 = .ok (.iconst 2, 1) := by decide +kernel
theorem dX4_readCell_117 : decode cX4_readCell 117 = .ok (.iconst 0, 1) := by decide +kernel
theorem dX4_readCell_118 : decode cX4_readCell 118 = .ok (.iconst 0, 1) := by decide +kernel
theorem dX4_readCell_119 : decode cX4_readCell 119 = .ok (.invokevirtual 70, 3) := by decide +kernel
theorem dX4_readCell_122 : decode cX4_readCell 122 = .ok (.goto 78, 3) := by decide +kernel
theorem dX4_readCell_125 : decode cX4_readCell 125 = .ok (.aload_n 0, 1) := by decide +kernel
theorem dX4_readCell_126 : decode cX4_readCell 126 = .ok (.getfield 12, 3) := by decide +kernel
theorem dX4_readCell_129 : decode cX4_readCell 129 = .ok (.aload_n 0, 1) := by decide +kernel
theorem dX4_readCell_130 : decode cX4_readCell 130 = .ok (.getfield 18, 3) := by decide +kernel
theorem dX4_readCell_133 : decode cX4_readCell 133 = .ok (.iconst 4, 1) := by decide +kernel
theorem dX4_readCell_134 : decode cX4_readCell 134 = .ok (.aload_n 0, 1) := by decide +kernel
theorem dX4_readCell_135 : decode cX4_readCell 135 = .ok (.invokevirtual 74, 3) := by decide +kernel
theorem dX4_readCell_138 : decode cX4_readCell 138 = .ok (.iconst 0, 1) := by decide +kernel
theorem dX4_readCell_139 : decode cX4_readCell 139 = .ok (.invokevirtual 70, 3) := by decide +kernel
theorem dX4_readCell_142 : decode cX4_readCell 142 = .ok (.goto 58, 3) := by decide +kernel
theorem dX4_readCell_145 : decode cX4_readCell 145 = .ok (.aload_n 0, 1) := by decide +kernel
theorem dX4_readCell_146 : decode cX4_readCell 146 = .ok (.iconst 5, 1) := by decide +kernel
theorem dX4_readCell_147 : decode cX4_readCell 147 = .ok (.bipush 9, 2) := by decide +kernel
theorem dX4_readCell_149 : decode cX4_readCell 149 = .ok (.invokevirtual 77, 3) := by decide +kernel
theorem dX4_readCell_152 : decode cX4_readCell 152 = .ok (.goto 48, 3) := by decide +kernel
theorem dX4_readCell_155 : decode cX4_readCell 155 = .ok (.aload_n 0, 1) := by decide +kernel
theorem dX4_readCell_156 : decode cX4_readCell 156 = .ok (.bipush 6, 2) := by decide +kernel
theorem dX4_readCell_158 : decode cX4_readCell 158 = .ok (.bipush 10, 2) := by decide +kernel
theorem dX4_readCell_160 : decode cX4_readCell 160 = .ok (.invokevirtual 77, 3) := by decide +kernel
theorem dX4_readCell_163 : decode cX4_readCell 163 = .ok (.goto 37, 3) := by decide +kernel
theorem dX4_readCell_166 : decode cX4_readCell 166 = .ok (.iload_n 1, 1) := by decide +kernel
theorem dX4_readCell_167 : decode cX4_readCell 167 = .ok (.invokestatic 80, 3) := by decide +kernel
theorem dX4_readCell_170 : decode cX4_readCell 170 = .ok (.ifCond .eq 24, 3) := by decide +kernel
theorem dX4_readCell_173 : decode cX4_readCell 173 = .ok (.aload_n 0, 1) := by decide +kernel
theorem dX4_readCell_174 : decode cX4_readCell 174 = .ok (.getfield 12, 3) := by decide +kernel
theorem dX4_readCell_177 : decode cX4_readCell 177 = .ok (.aload_n 0, 1) := by decide +kernel
theorem dX4_readCell_178 : decode cX4_readCell 178 = .ok (.getfield 18, 3) := by decide +kernel
theorem dX4_readCell_181 : decode cX4_readCell 181 = .ok (.bipush 8, 2) := by decide +kernel
theorem dX4_readCell_183 : decode cX4_readCell 183 = .ok (.iload_n 1, 1) := by decide +kernel
theorem dX4_readCell_184 : decode cX4_readCell 184 = .ok (.bipush 119, 2) := by decide +kernel
theorem dX4_readCell_186 : decode cX4_readCell 186 = .ok (.isub, 1) := by decide +kernel
theorem dX4_readCell_187 : decode cX4_readCell 187 = .ok (.iconst 0, 1) := by decide +kernel
theorem dX4_readCell_188 : decode cX4_readCell 188 = .ok (.invokevirtual 70, 3) := by decide +kernel
theorem dX4_readCell_191 : decode cX4_readCell 191 = .ok (.goto 9, 3) := by decide +kernel
theorem dX4_readCell_194 : decode cX4_readCell 194 = .ok (.aload_n 0, 1) := by decide +kernel
theorem dX4_readCell_195 : decode cX4_readCell 195 = .ok (.iload_n 2, 1) := by decide +kernel
theorem dX4_readCell_196 : decode cX4_readCell 196 = .ok (.iconst 1, 1) := by decide +kernel
theorem dX4_readCell_197 : decode cX4_readCell 197 = .ok (.invokevirtual 59, 3) := by decide +kernel
theorem dX4_readCell_200 : decode cX4_readCell 200 = .ok (.return_, 1) := by decide +kernel
set_option maxRecDepth 20000 in
theorem ggX4_readNumbers_X4_readNumber : GoodIn wsX4_readNumbers wsX4_readNumber := goodIn_r _ [9, 2, 1, 10, 11, 12, 13, 14, 15, 16, 17, 18, 19, 20, 21, 22, 23, 24, 8, 25, 26, 27, 28, 29, 30, 31, 48, 49, 50, 51, 52, 53, 54, 55, 56] (by decide +kernel) (by decide +kernel)
set_option maxRecDepth 20000 in
theorem gX4_readNumbers_X4_readNumber : GoodIn wsX4_readNumbers (wsV RX4 74 RX4 yX4_readNumber wsX4_readNumber) := goodIn_app (goodIn_of _ (by decide +kernel)) ggX4_readNumbers_X4_readNumber
set_option maxRecDepth 20000 in
theorem ggX4_readNumbers_X7_characterAt : GoodIn wsX4_readNumbers wsX7_characterAt := goodIn_r _ [14, 15, 16, 17, 18, 19, 20, 21, 22, 54, 55, 56] (by decide +kernel) (by decide +kernel)
set_option maxRecDepth 20000 in
theorem gX4_readNumbers_X7_characterAt : GoodIn wsX4_readNumbers (wsV RX4 38 RX7 yX7_characterAt wsX7_characterAt) := goodIn_app (goodIn_of _ (by decide +kernel)) ggX4_readNumbers_X7_characterAt
set_option maxRecDepth 20000 in
theorem ggX4_readNumbers_X1_fill : GoodIn wsX4_readNumbers wsX1_fill := goodIn_r _ [36, 37, 38, 39, 40, 41, 42, 20, 43, 22, 57, 58, 59, 56] (by decide +kernel) (by decide +kernel)
set_option maxRecDepth 20000 in
theorem gX4_readNumbers_X1_fill : GoodIn wsX4_readNumbers (wsV RX4 70 RX1 yX1_fill wsX1_fill) := goodIn_app (goodIn_of _ (by decide +kernel)) ggX4_readNumbers_X1_fill
set_option maxRecDepth 20000 in
theorem ggX4_readNumbers_X4_hasFault : GoodIn wsX4_readNumbers wsX4_hasFault := goodIn_r _ [47, 31, 48, 49, 50, 51, 52, 53] (by decide +kernel) (by decide +kernel)
set_option maxRecDepth 20000 in
theorem gX4_readNumbers_X4_hasFault : GoodIn wsX4_readNumbers (wsV RX4 48 RX4 yX4_hasFault wsX4_hasFault) := goodIn_app (goodIn_of _ (by decide +kernel)) ggX4_readNumbers_X4_hasFault
set_option maxRecDepth 20000 in
theorem ggX4_readNumbers_X4_fail : GoodIn wsX4_readNumbers wsX4_fail := goodIn_r _ [29, 30, 31, 48, 49, 50, 51, 52, 53] (by decide +kernel) (by decide +kernel)
set_option maxRecDepth 20000 in
theorem gX4_readNumbers_X4_fail : GoodIn wsX4_readNumbers (wsV RX4 59 RX4 yX4_fail wsX4_fail) := goodIn_app (goodIn_of _ (by decide +kernel)) ggX4_readNumbers_X4_fail
theorem dX4_readNumbers_0 : decode cX4_readNumbers 0 = .ok (.aload_n 0, 1) := by decide +kernel
theorem dX4_readNumbers_1 : decode cX4_readNumbers 1 = .ok (.getfield 22, 3) := by decide +kernel
theorem dX4_readNumbers_4 : decode cX4_readNumbers 4 = .ok (.istore_n 1, 1) := by decide +kernel
theorem dX4_readNumbers_5 : decode cX4_readNumbers 5 = .ok (.aload_n 0, 1) := by decide +kernel
theorem dX4_readNumbers_6 : decode cX4_readNumbers 6 = .ok (.invokevirtual 74, 3) := by decide +kernel
theorem dX4_readNumbers_9 : decode cX4_readNumbers 9 = .ok (.istore_n 2, 1) := by decide +kernel
theorem dX4_readNumbers_10 : decode cX4_readNumbers 10 = .ok (.aload_n 0, 1) := by decide +kernel
theorem dX4_readNumbers_11 : decode cX4_readNumbers 11 = .ok (.getfield 31, 3) := by decide +kernel
theorem dX4_readNumbers_14 : decode cX4_readNumbers 14 = .ok (.aload_n 0, 1) := by decide +kernel
theorem dX4_readNumbers_15 : decode cX4_readNumbers 15 = .ok (.getfield 22, 3) := by decide +kernel
theorem dX4_readNumbers_18 : decode cX4_readNumbers 18 = .ok (.invokevirtual 38, 3) := by decide +kernel
theorem dX4_readNumbers_21 : decode cX4_readNumbers 21 = .ok (.bipush 45, 2) := by decide +kernel
theorem dX4_readNumbers_23 : decode cX4_readNumbers 23 = .ok (.if_icmp .eq 18, 3) := by decide +kernel
theorem dX4_readNumbers_26 : decode cX4_readNumbers 26 = .ok (.aload_n 0, 1) := by decide +kernel
theorem dX4_readNumbers_27 : decode cX4_readNumbers 27 = .ok (.getfield 12, 3) := by decide +kernel
theorem dX4_readNumbers_30 : decode cX4_readNumbers 30 = .ok (.aload_n 0, 1) := by decide +kernel
theorem dX4_readNumbers_31 : decode cX4_readNumbers 31 = .ok (.getfield 18, 3) := by decide +kernel
theorem dX4_readNumbers_34 : decode cX4_readNumbers 34 = .ok (.iconst 3, 1) := by decide +kernel
theorem dX4_readNumbers_35 : decode cX4_readNumbers 35 = .ok (.iload_n 2, 1) := by decide +kernel
theorem dX4_readNumbers_36 : decode cX4_readNumbers 36 = .ok (.iconst 0, 1) := by decide +kernel
theorem dX4_readNumbers_37 : decode cX4_readNumbers 37 = .ok (.invokevirtual 70, 3) := by decide +kernel
theorem dX4_readNumbers_40 : decode cX4_readNumbers 40 = .ok (.return_, 1) := by decide +kernel
theorem dX4_readNumbers_41 : decode cX4_readNumbers 41 = .ok (.aload_n 0, 1) := by decide +kernel
theorem dX4_readNumbers_42 : decode cX4_readNumbers 42 = .ok (.dup, 1) := by decide +kernel
theorem dX4_readNumbers_43 : decode cX4_readNumbers 43 = .ok (.getfield 22, 3) := by decide +kernel
theorem dX4_readNumbers_46 : decode cX4_readNumbers 46 = .ok (.iconst 1, 1) := by decide +kernel
theorem dX4_readNumbers_47 : decode cX4_readNumbers 47 = .ok (.iadd, 1) := by decide +kernel
theorem dX4_readNumbers_48 : decode cX4_readNumbers 48 = .ok (.putfield 22, 3) := by decide +kernel
theorem dX4_readNumbers_51 : decode cX4_readNumbers 51 = .ok (.aload_n 0, 1) := by decide +kernel
theorem dX4_readNumbers_52 : decode cX4_readNumbers 52 = .ok (.invokevirtual 74, 3) := by decide +kernel
theorem dX4_readNumbers_55 : decode cX4_readNumbers 55 = .ok (.istore_n 3, 1) := by decide +kernel
theorem dX4_readNumbers_56 : decode cX4_readNumbers 56 = .ok (.aload_n 0, 1) := by decide +kernel
theorem dX4_readNumbers_57 : decode cX4_readNumbers 57 = .ok (.invokevirtual 48, 3) := by decide +kernel
theorem dX4_readNumbers_60 : decode cX4_readNumbers 60 = .ok (.ifCond .ne 14, 3) := by decide +kernel
theorem dX4_readNumbers_63 : decode cX4_readNumbers 63 = .ok (.iload_n 3, 1) := by decide +kernel
theorem dX4_readNumbers_64 : decode cX4_readNumbers 64 = .ok (.iload_n 2, 1) := by decide +kernel
theorem dX4_readNumbers_65 : decode cX4_readNumbers 65 = .ok (.if_icmp .ge 9, 3) := by decide +kernel
theorem dX4_readNumbers_68 : decode cX4_readNumbers 68 = .ok (.aload_n 0, 1) := by decide +kernel
theorem dX4_readNumbers_69 : decode cX4_readNumbers 69 = .ok (.iload_n 1, 1) := by decide +kernel
theorem dX4_readNumbers_70 : decode cX4_readNumbers 70 = .ok (.iconst 2, 1) := by decide +kernel
theorem dX4_readNumbers_71 : decode cX4_readNumbers 71 = .ok (.invokevirtual 59, 3) := by decide +kernel
theorem dX4_readNumbers_74 : decode cX4_readNumbers 74 = .ok (.aload_n 0, 1) := by decide +kernel
theorem dX4_readNumbers_75 : decode cX4_readNumbers 75 = .ok (.getfield 12, 3) := by decide +kernel
theorem dX4_readNumbers_78 : decode cX4_readNumbers 78 = .ok (.aload_n 0, 1) := by decide +kernel
theorem dX4_readNumbers_79 : decode cX4_readNumbers 79 = .ok (.getfield 18, 3) := by decide +kernel
theorem dX4_readNumbers_82 : decode cX4_readNumbers 82 = .ok (.bipush 7, 2) := by decide +kernel
theorem dX4_readNumbers_84 : decode cX4_readNumbers 84 = .ok (.iload_n 2, 1) := by decide +kernel
theorem dX4_readNumbers_85 : decode cX4_readNumbers 85 = .ok (.iload_n 3, 1) := by decide +kernel
theorem dX4_readNumbers_86 : decode cX4_readNumbers 86 = .ok (.invokevirtual 70, 3) := by decide +kernel
theorem dX4_readNumbers_89 : decode cX4_readNumbers 89 = .ok (.return_, 1) := by decide +kernel
set_option maxRecDepth 20000 in
theorem ggX4_readBound_X7_characterAt : GoodIn wsX4_readBound wsX7_characterAt := goodIn_r _ [9, 10, 11, 12, 13, 14, 15, 16, 17, 53, 54, 55] (by decide +kernel) (by decide +kernel)
set_option maxRecDepth 20000 in
theorem gX4_readBound_X7_characterAt : GoodIn wsX4_readBound (wsV RX4 38 RX7 yX7_characterAt wsX7_characterAt) := goodIn_app (goodIn_of _ (by decide +kernel)) ggX4_readBound_X7_characterAt
set_option maxRecDepth 20000 in
theorem ggX4_readBound_X4_isLetter : GoodIn wsX4_readBound wsX4_isLetter := goodIn_r _ [21] (by decide +kernel) (by decide +kernel)
set_option maxRecDepth 20000 in
theorem gX4_readBound_X4_isLetter : GoodIn wsX4_readBound (va_wsS RX4 80 yX4_isLetter wsX4_isLetter) := goodIn_app (goodIn_of _ (by decide +kernel)) ggX4_readBound_X4_isLetter
set_option maxRecDepth 20000 in
theorem ggX4_readBound_X1_fill : GoodIn wsX4_readBound wsX1_fill := goodIn_r _ [26, 27, 28, 29, 30, 31, 32, 15, 33, 17, 56, 57, 58, 55] (by decide +kernel) (by decide +kernel)
set_option maxRecDepth 20000 in
theorem gX4_readBound_X1_fill : GoodIn wsX4_readBound (wsV RX4 70 RX1 yX1_fill wsX1_fill) := goodIn_app (goodIn_of _ (by decide +kernel)) ggX4_readBound_X1_fill
set_option maxRecDepth 20000 in
theorem ggX4_readBound_X4_readNumber : GoodIn wsX4_readBound wsX4_readNumber := goodIn_r _ [37, 1, 2, 5, 6, 7, 8, 9, 10, 11, 12, 13, 14, 15, 16, 17, 38, 39, 20, 40, 41, 42, 43, 44, 45, 46, 47, 48, 49, 50, 51, 52, 53, 54, 55] (by decide +kernel) (by decide +kernel)
set_option maxRecDepth 20000 in
theorem gX4_readBound_X4_readNumber : GoodIn wsX4_readBound (wsV RX4 74 RX4 yX4_readNumber wsX4_readNumber) := goodIn_app (goodIn_of _ (by decide +kernel)) ggX4_readBound_X4_readNumber
theorem dX4_readBound_0 : decode cX4_readBound 0 = .ok (.aload_n 0, 1) := by decide +kernel
theorem dX4_readBound_1 : decode cX4_readBound 1 = .ok (.getfield 31, 3) := by decide +kernel
theorem dX4_readBound_4 : decode cX4_readBound 4 = .ok (.aload_n 0, 1) := by decide +kernel
theorem dX4_readBound_5 : decode cX4_readBound 5 = .ok (.getfield 22, 3) := by decide +kernel
theorem dX4_readBound_8 : decode cX4_readBound 8 = .ok (.invokevirtual 38, 3) := by decide +kernel
theorem dX4_readBound_11 : decode cX4_readBound 11 = .ok (.istore_n 3, 1) := by decide +kernel
theorem dX4_readBound_12 : decode cX4_readBound 12 = .ok (.iload_n 3, 1) := by decide +kernel
theorem dX4_readBound_13 : decode cX4_readBound 13 = .ok (.invokestatic 80, 3) := by decide +kernel
