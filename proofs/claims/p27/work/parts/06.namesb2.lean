theorem dX6_copyFrom_44 : decode cX6_copyFrom 44 = .ok (.aload_n 0, 1) := by decide +kernel
theorem dX6_copyFrom_45 : decode cX6_copyFrom 45 = .ok (.aload_n 1, 1) := by decide +kernel
theorem dX6_copyFrom_46 : decode cX6_copyFrom 46 = .ok (.getfield 33, 3) := by decide +kernel
theorem dX6_copyFrom_49 : decode cX6_copyFrom 49 = .ok (.putfield 33, 3) := by decide +kernel
theorem dX6_copyFrom_52 : decode cX6_copyFrom 52 = .ok (.aload_n 0, 1) := by decide +kernel
theorem dX6_copyFrom_53 : decode cX6_copyFrom 53 = .ok (.aload_n 1, 1) := by decide +kernel
theorem dX6_copyFrom_54 : decode cX6_copyFrom 54 = .ok (.getfield 37, 3) := by decide +kernel
theorem dX6_copyFrom_57 : decode cX6_copyFrom 57 = .ok (.putfield 37, 3) := by decide +kernel
theorem dX6_copyFrom_60 : decode cX6_copyFrom 60 = .ok (.return_, 1) := by decide +kernel
set_option maxRecDepth 20000 in
theorem ggX7_init_X3_init : GoodIn wsX7_init wsX3_init := goodIn_r _ [11, 12, 2, 3, 13, 14, 15, 16, 17, 18, 19, 20, 21, 6, 22, 23] (by decide +kernel) (by decide +kernel)
set_option maxRecDepth 20000 in
theorem gX7_init_X3_init : GoodIn wsX7_init (wsX3_init) := ggX7_init_X3_init
theorem dX7_init_0 : decode cX7_init 0 = .ok (.aload_n 0, 1) := by decide +kernel
theorem dX7_init_1 : decode cX7_init 1 = .ok (.invokespecial 3, 3) := by decide +kernel
theorem dX7_init_4 : decode cX7_init 4 = .ok (.aload_n 0, 1) := by decide +kernel
theorem dX7_init_5 : decode cX7_init 5 = .ok (.new 9, 3) := by decide +kernel
theorem dX7_init_8 : decode cX7_init 8 = .ok (.dup, 1) := by decide +kernel
theorem dX7_init_9 : decode cX7_init 9 = .ok (.bipush 60, 2) := by decide +kernel
theorem dX7_init_11 : decode cX7_init 11 = .ok (.iconst 0, 1) := by decide +kernel
theorem dX7_init_12 : decode cX7_init 12 = .ok (.invokespecial 11, 3) := by decide +kernel
theorem dX7_init_15 : decode cX7_init 15 = .ok (.putfield 14, 3) := by decide +kernel
theorem dX7_init_18 : decode cX7_init 18 = .ok (.aload_n 0, 1) := by decide +kernel
theorem dX7_init_19 : decode cX7_init 19 = .ok (.iconst 0, 1) := by decide +kernel
theorem dX7_init_20 : decode cX7_init 20 = .ok (.putfield 20, 3) := by decide +kernel
theorem dX7_init_23 : decode cX7_init 23 = .ok (.return_, 1) := by decide +kernel
theorem dX7_length_0 : decode cX7_length 0 = .ok (.aload_n 0, 1) := by decide +kernel
theorem dX7_length_1 : decode cX7_length 1 = .ok (.getfield 20, 3) := by decide +kernel
theorem dX7_length_4 : decode cX7_length 4 = .ok (.ireturn, 1) := by decide +kernel
set_option maxRecDepth 20000 in
theorem ggX7_characterAt_X3_at : GoodIn wsX7_characterAt wsX3_at := goodIn_r _ [7, 8, 11] (by decide +kernel) (by decide +kernel)
set_option maxRecDepth 20000 in
theorem gX7_characterAt_X3_at : GoodIn wsX7_characterAt (wsV RX7 24 RX3 yX3_at wsX3_at) := goodIn_app (goodIn_of _ (by decide +kernel)) ggX7_characterAt_X3_at
theorem dX7_characterAt_0 : decode cX7_characterAt 0 = .ok (.iload_n 1, 1) := by decide +kernel
theorem dX7_characterAt_1 : decode cX7_characterAt 1 = .ok (.aload_n 0, 1) := by decide +kernel
theorem dX7_characterAt_2 : decode cX7_characterAt 2 = .ok (.getfield 20, 3) := by decide +kernel
theorem dX7_characterAt_5 : decode cX7_characterAt 5 = .ok (.if_icmp .ge 14, 3) := by decide +kernel
theorem dX7_characterAt_8 : decode cX7_characterAt 8 = .ok (.aload_n 0, 1) := by decide +kernel
theorem dX7_characterAt_9 : decode cX7_characterAt 9 = .ok (.getfield 14, 3) := by decide +kernel
theorem dX7_characterAt_12 : decode cX7_characterAt 12 = .ok (.iload_n 1, 1) := by decide +kernel
theorem dX7_characterAt_13 : decode cX7_characterAt 13 = .ok (.invokevirtual 24, 3) := by decide +kernel
theorem dX7_characterAt_16 : decode cX7_characterAt 16 = .ok (.goto 4, 3) := by decide +kernel
theorem dX7_characterAt_19 : decode cX7_characterAt 19 = .ok (.iconst (-1), 1) := by decide +kernel
theorem dX7_characterAt_20 : decode cX7_characterAt 20 = .ok (.ireturn, 1) := by decide +kernel
set_option maxRecDepth 20000 in
theorem ggX7_append_X3_set : GoodIn wsX7_append wsX3_set := goodIn_r _ [7, 8, 11] (by decide +kernel) (by decide +kernel)
set_option maxRecDepth 20000 in
theorem gX7_append_X3_set : GoodIn wsX7_append (wsV RX7 28 RX3 yX3_set wsX3_set) := goodIn_app (goodIn_of _ (by decide +kernel)) ggX7_append_X3_set
theorem dX7_append_0 : decode cX7_append 0 = .ok (.aload_n 0, 1) := by decide +kernel
theorem dX7_append_1 : decode cX7_append 1 = .ok (.getfield 14, 3) := by decide +kernel
theorem dX7_append_4 : decode cX7_append 4 = .ok (.aload_n 0, 1) := by decide +kernel
theorem dX7_append_5 : decode cX7_append 5 = .ok (.getfield 20, 3) := by decide +kernel
theorem dX7_append_8 : decode cX7_append 8 = .ok (.iload_n 1, 1) := by decide +kernel
theorem dX7_append_9 : decode cX7_append 9 = .ok (.invokevirtual 28, 3) := by decide +kernel
theorem dX7_append_12 : decode cX7_append 12 = .ok (.aload_n 0, 1) := by decide +kernel
theorem dX7_append_13 : decode cX7_append 13 = .ok (.dup, 1) := by decide +kernel
theorem dX7_append_14 : decode cX7_append 14 = .ok (.getfield 20, 3) := by decide +kernel
theorem dX7_append_17 : decode cX7_append 17 = .ok (.iconst 1, 1) := by decide +kernel
theorem dX7_append_18 : decode cX7_append 18 = .ok (.iadd, 1) := by decide +kernel
theorem dX7_append_19 : decode cX7_append 19 = .ok (.putfield 20, 3) := by decide +kernel
theorem dX7_append_22 : decode cX7_append 22 = .ok (.aload_n 0, 1) := by decide +kernel
theorem dX7_append_23 : decode cX7_append 23 = .ok (.getfield 20, 3) := by decide +kernel
theorem dX7_append_26 : decode cX7_append 26 = .ok (.ireturn, 1) := by decide +kernel
theorem dX7_empty_0 : decode cX7_empty 0 = .ok (.aload_n 0, 1) := by decide +kernel
theorem dX7_empty_1 : decode cX7_empty 1 = .ok (.getfield 20, 3) := by decide +kernel
theorem dX7_empty_4 : decode cX7_empty 4 = .ok (.istore_n 1, 1) := by decide +kernel
theorem dX7_empty_5 : decode cX7_empty 5 = .ok (.aload_n 0, 1) := by decide +kernel
theorem dX7_empty_6 : decode cX7_empty 6 = .ok (.iconst 0, 1) := by decide +kernel
theorem dX7_empty_7 : decode cX7_empty 7 = .ok (.putfield 20, 3) := by decide +kernel
theorem dX7_empty_10 : decode cX7_empty 10 = .ok (.iload_n 1, 1) := by decide +kernel
theorem dX7_empty_11 : decode cX7_empty 11 = .ok (.ireturn, 1) := by decide +kernel
set_option maxRecDepth 20000 in
theorem ggX8_init_X6_init : GoodIn wsX8_init wsX6_init := goodIn_r _ [25, 26, 2, 3, 27, 28, 29, 30, 31, 32, 33, 34, 35, 36, 37, 38, 39, 40, 41, 42, 43, 44, 45, 46, 47, 48, 49, 50, 51, 52, 53, 54, 55, 56, 57, 58, 59, 60, 61, 62, 63, 64, 65, 66, 67, 68, 69, 70, 71, 72, 142, 143, 144, 145, 112, 113, 114, 115, 116, 117, 146, 147, 148, 149] (by decide +kernel) (by decide +kernel)
set_option maxRecDepth 20000 in
theorem gX8_init_X6_init_n11 : GoodIn wsX8_init (wsX6_init) := ggX8_init_X6_init
set_option maxRecDepth 20000 in
theorem ggX8_init_X2_init : GoodIn wsX8_init wsX2_init := goodIn_r _ [74, 75, 2, 3, 76, 5, 6, 77, 78, 79, 80, 81, 24, 25, 26, 27, 28, 29, 30, 31, 32, 33, 34, 35, 36, 37, 38, 39, 40, 41, 42, 43, 44, 45, 46, 47, 48, 49, 50, 51, 52, 53, 54, 55, 56, 57, 58, 59, 60, 61, 62, 63, 64, 65, 66, 67, 68, 69, 70, 71, 72, 112, 113, 114, 115, 116, 117, 123, 124, 125, 126, 127, 142, 143, 144, 145, 146, 147, 148, 149] (by decide +kernel) (by decide +kernel)
set_option maxRecDepth 20000 in
theorem gX8_init_X2_init_n18 : GoodIn wsX8_init (wsX2_init) := ggX8_init_X2_init
set_option maxRecDepth 20000 in
theorem ggX8_init_X5_init : GoodIn wsX8_init wsX5_init := goodIn_r _ [84, 85, 2, 3, 86, 33, 34, 87, 88, 89, 90, 91, 92, 93, 51, 52, 53, 54, 55, 56, 57, 58, 59, 60, 61, 62, 63, 146, 128, 129, 130, 131, 132, 133] (by decide +kernel) (by decide +kernel)
set_option maxRecDepth 20000 in
theorem gX8_init_X5_init : GoodIn wsX8_init (wsX5_init) := ggX8_init_X5_init
set_option maxRecDepth 20000 in
theorem ggX8_init_X7_init : GoodIn wsX8_init wsX7_init := goodIn_r _ [95, 96, 2, 3, 97, 33, 34, 98, 99, 100, 51, 52, 53, 54, 55, 56, 57, 58, 59, 60, 61, 62, 63, 146, 134, 135] (by decide +kernel) (by decide +kernel)
set_option maxRecDepth 20000 in
theorem gX8_init_X7_init_n34 : GoodIn wsX8_init (wsX7_init) := ggX8_init_X7_init
set_option maxRecDepth 20000 in
theorem ggX8_init_X4_init : GoodIn wsX8_init wsX4_init := goodIn_r _ [103, 104, 2, 3, 105, 45, 46, 106, 107, 108, 109, 110, 111, 64, 65, 66, 67, 33, 34, 68, 69, 70, 71, 51, 52, 53, 54, 55, 56, 57, 58, 59, 60, 61, 62, 63, 147, 148, 149, 136, 137, 138, 139, 140, 141, 146] (by decide +kernel) (by decide +kernel)
set_option maxRecDepth 20000 in
theorem gX8_init_X4_init : GoodIn wsX8_init (wsX4_init) := ggX8_init_X4_init
theorem dX8_init_0 : decode cX8_init 0 = .ok (.aload_n 0, 1) := by decide +kernel
theorem dX8_init_1 : decode cX8_init 1 = .ok (.invokespecial 3, 3) := by decide +kernel
theorem dX8_init_4 : decode cX8_init 4 = .ok (.aload_n 0, 1) := by decide +kernel
theorem dX8_init_5 : decode cX8_init 5 = .ok (.new 9, 3) := by decide +kernel
theorem dX8_init_8 : decode cX8_init 8 = .ok (.dup, 1) := by decide +kernel
theorem dX8_init_9 : decode cX8_init 9 = .ok (.invokespecial 11, 3) := by decide +kernel
theorem dX8_init_12 : decode cX8_init 12 = .ok (.putfield 12, 3) := by decide +kernel
theorem dX8_init_15 : decode cX8_init 15 = .ok (.aload_n 0, 1) := by decide +kernel
theorem dX8_init_16 : decode cX8_init 16 = .ok (.new 16, 3) := by decide +kernel
theorem dX8_init_19 : decode cX8_init 19 = .ok (.dup, 1) := by decide +kernel
theorem dX8_init_20 : decode cX8_init 20 = .ok (.invokespecial 18, 3) := by decide +kernel
theorem dX8_init_23 : decode cX8_init 23 = .ok (.putfield 19, 3) := by decide +kernel
theorem dX8_init_26 : decode cX8_init 26 = .ok (.aload_n 0, 1) := by decide +kernel
theorem dX8_init_27 : decode cX8_init 27 = .ok (.new 23, 3) := by decide +kernel
theorem dX8_init_30 : decode cX8_init 30 = .ok (.dup, 1) := by decide +kernel
theorem dX8_init_31 : decode cX8_init 31 = .ok (.aload_n 0, 1) := by decide +kernel
theorem dX8_init_32 : decode cX8_init 32 = .ok (.getfield 12, 3) := by decide +kernel
theorem dX8_init_35 : decode cX8_init 35 = .ok (.invokespecial 25, 3) := by decide +kernel
theorem dX8_init_38 : decode cX8_init 38 = .ok (.putfield 28, 3) := by decide +kernel
theorem dX8_init_41 : decode cX8_init 41 = .ok (.aload_n 0, 1) := by decide +kernel
theorem dX8_init_42 : decode cX8_init 42 = .ok (.new 32, 3) := by decide +kernel
theorem dX8_init_45 : decode cX8_init 45 = .ok (.dup, 1) := by decide +kernel
theorem dX8_init_46 : decode cX8_init 46 = .ok (.invokespecial 34, 3) := by decide +kernel
theorem dX8_init_49 : decode cX8_init 49 = .ok (.putfield 35, 3) := by decide +kernel
theorem dX8_init_52 : decode cX8_init 52 = .ok (.aload_n 0, 1) := by decide +kernel
theorem dX8_init_53 : decode cX8_init 53 = .ok (.new 39, 3) := by decide +kernel
theorem dX8_init_56 : decode cX8_init 56 = .ok (.dup, 1) := by decide +kernel
theorem dX8_init_57 : decode cX8_init 57 = .ok (.aload_n 0, 1) := by decide +kernel
theorem dX8_init_58 : decode cX8_init 58 = .ok (.getfield 35, 3) := by decide +kernel
theorem dX8_init_61 : decode cX8_init 61 = .ok (.invokespecial 41, 3) := by decide +kernel
theorem dX8_init_64 : decode cX8_init 64 = .ok (.putfield 44, 3) := by decide +kernel
theorem dX8_init_67 : decode cX8_init 67 = .ok (.return_, 1) := by decide +kernel
set_option maxRecDepth 20000 in
theorem ggX8_columns_X8_isBit : GoodIn wsX8_columns wsX8_isBit := goodIn_r _ [6] (by decide +kernel) (by decide +kernel)
set_option maxRecDepth 20000 in
theorem gX8_columns_X8_isBit : GoodIn wsX8_columns (va_wsS RX8 48 yX8_isBit wsX8_isBit) := goodIn_app (goodIn_of _ (by decide +kernel)) ggX8_columns_X8_isBit
set_option maxRecDepth 20000 in
theorem ggX8_columns_X2_keep : GoodIn wsX8_columns wsX2_keep := goodIn_r _ [11, 12, 13, 14, 15, 16, 17, 18, 19, 20, 21, 22, 23, 24, 25, 26, 27, 28, 29, 30, 31, 32, 33, 34, 35, 36, 37, 38, 39, 40, 41, 42, 43, 44, 45, 46, 47, 48, 49, 50, 51, 52, 53, 54, 55, 56, 57, 58, 59, 60, 82, 83, 84, 85, 86, 87, 88, 89, 90, 91, 92, 93, 94, 95, 96, 97, 98, 99, 100] (by decide +kernel) (by decide +kernel)
set_option maxRecDepth 20000 in
theorem gX8_columns_X2_keep : GoodIn wsX8_columns (wsV RX8 52 RX2 yX2_keep wsX2_keep) := goodIn_app (goodIn_of _ (by decide +kernel)) ggX8_columns_X2_keep
set_option maxRecDepth 20000 in
theorem ggX8_columns_X6_drawer : GoodIn wsX8_columns wsX6_drawer := goodIn_r _ [64, 26, 27, 87, 88, 89, 90, 91, 92] (by decide +kernel) (by decide +kernel)
set_option maxRecDepth 20000 in
theorem gX8_columns_X6_drawer : GoodIn wsX8_columns (wsV RX8 55 RX6 yX6_drawer wsX6_drawer) := goodIn_app (goodIn_of _ (by decide +kernel)) ggX8_columns_X6_drawer
set_option maxRecDepth 20000 in
theorem ggX8_columns_X0_remake : GoodIn wsX8_columns wsX0_remake := goodIn_r _ [68, 40, 39, 38, 69, 70, 71, 54, 72, 56, 57, 58, 73, 74, 75, 44, 76, 46, 93, 94, 95, 96, 98, 99, 100, 97] (by decide +kernel) (by decide +kernel)
set_option maxRecDepth 20000 in
theorem gX8_columns_X0_remake : GoodIn wsX8_columns (wsV RX8 59 RX0 yX0_remake wsX0_remake) := goodIn_app (goodIn_of _ (by decide +kernel)) ggX8_columns_X0_remake
theorem dX8_columns_0 : decode cX8_columns 0 = .ok (.iload_n 1, 1) := by decide +kernel
theorem dX8_columns_1 : decode cX8_columns 1 = .ok (.invokestatic 48, 3) := by decide +kernel
theorem dX8_columns_4 : decode cX8_columns 4 = .ok (.ifCond .eq 13, 3) := by decide +kernel
theorem dX8_columns_7 : decode cX8_columns 7 = .ok (.iload_n 2, 1) := by decide +kernel
theorem dX8_columns_8 : decode cX8_columns 8 = .ok (.iconst 1, 1) := by decide +kernel
theorem dX8_columns_9 : decode cX8_columns 9 = .ok (.if_icmp .lt 8, 3) := by decide +kernel
theorem dX8_columns_12 : decode cX8_columns 12 = .ok (.iload_n 2, 1) := by decide +kernel
theorem dX8_columns_13 : decode cX8_columns 13 = .ok (.iconst 4, 1) := by decide +kernel
theorem dX8_columns_14 : decode cX8_columns 14 = .ok (.if_icmp .le 6, 3) := by decide +kernel
theorem dX8_columns_17 : decode cX8_columns 17 = .ok (.bipush (-11), 2) := by decide +kernel
theorem dX8_columns_19 : decode cX8_columns 19 = .ok (.ireturn, 1) := by decide +kernel
theorem dX8_columns_20 : decode cX8_columns 20 = .ok (.aload_n 0, 1) := by decide +kernel
theorem dX8_columns_21 : decode cX8_columns 21 = .ok (.getfield 19, 3) := by decide +kernel
theorem dX8_columns_24 : decode cX8_columns 24 = .ok (.aload_n 0, 1) := by decide +kernel
theorem dX8_columns_25 : decode cX8_columns 25 = .ok (.getfield 12, 3) := by decide +kernel
theorem dX8_columns_28 : decode cX8_columns 28 = .ok (.invokevirtual 52, 3) := by decide +kernel
theorem dX8_columns_31 : decode cX8_columns 31 = .ok (.aload_n 0, 1) := by decide +kernel
theorem dX8_columns_32 : decode cX8_columns 32 = .ok (.getfield 12, 3) := by decide +kernel
theorem dX8_columns_35 : decode cX8_columns 35 = .ok (.iload_n 1, 1) := by decide +kernel
theorem dX8_columns_36 : decode cX8_columns 36 = .ok (.invokevirtual 55, 3) := by decide +kernel
theorem dX8_columns_39 : decode cX8_columns 39 = .ok (.iload_n 2, 1) := by decide +kernel
theorem dX8_columns_40 : decode cX8_columns 40 = .ok (.invokevirtual 59, 3) := by decide +kernel
theorem dX8_columns_43 : decode cX8_columns 43 = .ok (.ireturn, 1) := by decide +kernel
set_option maxRecDepth 20000 in
theorem ggX8_card_X8_isBit : GoodIn wsX8_card wsX8_isBit := goodIn_r _ [6] (by decide +kernel) (by decide +kernel)
set_option maxRecDepth 20000 in
theorem gX8_card_X8_isBit : GoodIn wsX8_card (va_wsS RX8 48 yX8_isBit wsX8_isBit) := goodIn_app (goodIn_of _ (by decide +kernel)) ggX8_card_X8_isBit
set_option maxRecDepth 20000 in
theorem ggX8_card_X8_isEntry : GoodIn wsX8_card wsX8_isEntry := goodIn_r _ [9] (by decide +kernel) (by decide +kernel)
set_option maxRecDepth 20000 in
theorem gX8_card_X8_isEntry : GoodIn wsX8_card (va_wsS RX8 65 yX8_isEntry wsX8_isEntry) := goodIn_app (goodIn_of _ (by decide +kernel)) ggX8_card_X8_isEntry
set_option maxRecDepth 20000 in
theorem ggX8_card_X6_drawer : GoodIn wsX8_card wsX6_drawer := goodIn_r _ [14, 15, 16, 85, 86, 87, 88, 89, 90] (by decide +kernel) (by decide +kernel)
set_option maxRecDepth 20000 in
theorem gX8_card_X6_drawer : GoodIn wsX8_card (wsV RX8 55 RX6 yX6_drawer wsX6_drawer) := goodIn_app (goodIn_of _ (by decide +kernel)) ggX8_card_X6_drawer
set_option maxRecDepth 20000 in
theorem ggX8_card_X0_size : GoodIn wsX8_card wsX0_size := goodIn_r _ [21, 22, 91, 92, 93, 94] (by decide +kernel) (by decide +kernel)
set_option maxRecDepth 20000 in
theorem gX8_card_X0_size : GoodIn wsX8_card (wsV RX8 68 RX0 yX0_size wsX0_size) := goodIn_app (goodIn_of _ (by decide +kernel)) ggX8_card_X0_size
set_option maxRecDepth 20000 in
theorem ggX8_card_X2_keep : GoodIn wsX8_card wsX2_keep := goodIn_r _ [27, 28, 29, 30, 31, 32, 33, 34, 35, 36, 37, 38, 39, 13, 40, 15, 16, 41, 42, 43, 44, 45, 46, 47, 20, 48, 49, 50, 51, 22, 52, 53, 54, 55, 56, 57, 58, 59, 60, 61, 62, 63, 64, 65, 66, 67, 68, 69, 70, 71, 95, 96, 97, 98, 99, 85, 86, 87, 88, 89, 90, 91, 92, 93, 94, 100, 101, 102, 103] (by decide +kernel) (by decide +kernel)
set_option maxRecDepth 20000 in
theorem gX8_card_X2_keep : GoodIn wsX8_card (wsV RX8 52 RX2 yX2_keep wsX2_keep) := goodIn_app (goodIn_of _ (by decide +kernel)) ggX8_card_X2_keep
set_option maxRecDepth 20000 in
theorem ggX8_card_X0_add : GoodIn wsX8_card wsX0_add := goodIn_r _ [75, 22, 49, 76, 77, 78, 55, 79, 57, 91, 92, 93, 94, 100] (by decide +kernel) (by decide +kernel)
set_option maxRecDepth 20000 in
theorem gX8_card_X0_add : GoodIn wsX8_card (wsV RX8 72 RX0 yX0_add wsX0_add) := goodIn_app (goodIn_of _ (by decide +kernel)) ggX8_card_X0_add
theorem dX8_card_0 : decode cX8_card 0 = .ok (.iload_n 1, 1) := by decide +kernel
theorem dX8_card_1 : decode cX8_card 1 = .ok (.invokestatic 48, 3) := by decide +kernel
theorem dX8_card_4 : decode cX8_card 4 = .ok (.ifCond .eq 33, 3) := by decide +kernel
theorem dX8_card_7 : decode cX8_card 7 = .ok (.iload_n 2, 1) := by decide +kernel
theorem dX8_card_8 : decode cX8_card 8 = .ok (.invokestatic 65, 3) := by decide +kernel
theorem dX8_card_11 : decode cX8_card 11 = .ok (.ifCond .eq 26, 3) := by decide +kernel
theorem dX8_card_14 : decode cX8_card 14 = .ok (.iload_n 3, 1) := by decide +kernel
theorem dX8_card_15 : decode cX8_card 15 = .ok (.invokestatic 65, 3) := by decide +kernel
theorem dX8_card_18 : decode cX8_card 18 = .ok (.ifCond .eq 19, 3) := by decide +kernel
theorem dX8_card_21 : decode cX8_card 21 = .ok (.iload 4, 2) := by decide +kernel
theorem dX8_card_23 : decode cX8_card 23 = .ok (.invokestatic 65, 3) := by decide +kernel
theorem dX8_card_26 : decode cX8_card 26 = .ok (.ifCond .eq 11, 3) := by decide +kernel
theorem dX8_card_29 : decode cX8_card 29 = .ok (.iload 5, 2) := by decide +kernel
theorem dX8_card_31 : decode cX8_card 31 = .ok (.invokestatic 65, 3) := by decide +kernel
theorem dX8_card_34 : decode cX8_card 34 = .ok (.ifCond .ne 6, 3) := by decide +kernel
theorem dX8_card_37 : decode cX8_card 37 = .ok (.bipush (-11), 2) := by decide +kernel
theorem dX8_card_39 : decode cX8_card 39 = .ok (.ireturn, 1) := by decide +kernel
theorem dX8_card_40 : decode cX8_card 40 = .ok (.aload_n 0, 1) := by decide +kernel
theorem dX8_card_41 : decode cX8_card 41 = .ok (.getfield 12, 3) := by decide +kernel
theorem dX8_card_44 : decode cX8_card 44 = .ok (.iload_n 1, 1) := by decide +kernel
theorem dX8_card_45 : decode cX8_card 45 = .ok (.invokevirtual 55, 3) := by decide +kernel
theorem dX8_card_48 : decode cX8_card 48 = .ok (.astore 6, 2) := by decide +kernel
theorem dX8_card_50 : decode cX8_card 50 = .ok (.aload 6, 2) := by decide +kernel
theorem dX8_card_52 : decode cX8_card 52 = .ok (.invokevirtual 68, 3) := by decide +kernel
theorem dX8_card_55 : decode cX8_card 55 = .ok (.bipush 12, 2) := by decide +kernel
theorem dX8_card_57 : decode cX8_card 57 = .ok (.if_icmp .lt 6, 3) := by decide +kernel
theorem dX8_card_60 : decode cX8_card 60 = .ok (.bipush (-13), 2) := by decide +kernel
theorem dX8_card_62 : decode cX8_card 62 = .ok (.ireturn, 1) := by decide +kernel
theorem dX8_card_63 : decode cX8_card 63 = .ok (.aload_n 0, 1) := by decide +kernel
theorem dX8_card_64 : decode cX8_card 64 = .ok (.getfield 19, 3) := by decide +kernel
theorem dX8_card_67 : decode cX8_card 67 = .ok (.aload_n 0, 1) := by decide +kernel
theorem dX8_card_68 : decode cX8_card 68 = .ok (.getfield 12, 3) := by decide +kernel
theorem dX8_card_71 : decode cX8_card 71 = .ok (.invokevirtual 52, 3) := by decide +kernel
theorem dX8_card_74 : decode cX8_card 74 = .ok (.aload 6, 2) := by decide +kernel
theorem dX8_card_76 : decode cX8_card 76 = .ok (.iload_n 2, 1) := by decide +kernel
theorem dX8_card_77 : decode cX8_card 77 = .ok (.iload_n 3, 1) := by decide +kernel
theorem dX8_card_78 : decode cX8_card 78 = .ok (.iload 4, 2) := by decide +kernel
theorem dX8_card_80 : decode cX8_card 80 = .ok (.iload 5, 2) := by decide +kernel
theorem dX8_card_82 : decode cX8_card 82 = .ok (.invokevirtual 72, 3) := by decide +kernel
theorem dX8_card_85 : decode cX8_card 85 = .ok (.ireturn, 1) := by decide +kernel
set_option maxRecDepth 20000 in
theorem ggX8_put_X8_isPlace : GoodIn wsX8_put wsX8_isPlace := goodIn_r _ [7, 2, 8, 9, 10, 6, 11, 12, 13, 14, 15, 16, 17, 18, 19, 20, 21, 22, 23, 24, 25, 26, 27, 28, 29, 30, 31, 32, 99, 100, 101, 102, 103, 104, 105, 106, 107, 108, 109, 110, 111, 112, 113] (by decide +kernel) (by decide +kernel)
set_option maxRecDepth 20000 in
theorem gX8_put_X8_isPlace : GoodIn wsX8_put (wsV RX8 76 RX8 yX8_isPlace wsX8_isPlace) := goodIn_app (goodIn_of _ (by decide +kernel)) ggX8_put_X8_isPlace
set_option maxRecDepth 20000 in
theorem ggX8_put_X8_isEntry : GoodIn wsX8_put wsX8_isEntry := goodIn_r _ [35] (by decide +kernel) (by decide +kernel)
set_option maxRecDepth 20000 in
theorem gX8_put_X8_isEntry : GoodIn wsX8_put (va_wsS RX8 65 yX8_isEntry wsX8_isEntry) := goodIn_app (goodIn_of _ (by decide +kernel)) ggX8_put_X8_isEntry
set_option maxRecDepth 20000 in
theorem ggX8_put_X2_keep : GoodIn wsX8_put wsX2_keep := goodIn_r _ [40, 41, 42, 43, 44, 45, 46, 47, 48, 49, 50, 51, 52, 18, 53, 20, 21, 54, 55, 56, 57, 58, 59, 60, 25, 61, 62, 63, 27, 32, 64, 65, 66, 67, 68, 69, 70, 71, 72, 73, 74, 75, 76, 77, 78, 79, 80, 81, 82, 83, 114, 115, 116, 117, 118, 104, 105, 106, 107, 108, 109, 110, 111, 112, 113, 119, 120, 121, 122] (by decide +kernel) (by decide +kernel)
set_option maxRecDepth 20000 in
theorem gX8_put_X2_keep : GoodIn wsX8_put (wsV RX8 52 RX2 yX2_keep wsX2_keep) := goodIn_app (goodIn_of _ (by decide +kernel)) ggX8_put_X2_keep
set_option maxRecDepth 20000 in
theorem ggX8_put_X6_drawer : GoodIn wsX8_put wsX6_drawer := goodIn_r _ [19, 20, 21, 104, 105, 106, 107, 108, 109] (by decide +kernel) (by decide +kernel)
set_option maxRecDepth 20000 in
theorem gX8_put_X6_drawer : GoodIn wsX8_put (wsV RX8 55 RX6 yX6_drawer wsX6_drawer) := goodIn_app (goodIn_of _ (by decide +kernel)) ggX8_put_X6_drawer
set_option maxRecDepth 20000 in
theorem ggX8_put_X0_replace : GoodIn wsX8_put wsX0_replace := goodIn_r _ [87, 62, 88, 89, 90, 25, 91, 92, 29, 30, 31, 32, 93, 23, 24, 26, 27, 94, 71, 72, 67, 73, 69, 95, 96, 97, 98, 110, 111, 112, 113, 119] (by decide +kernel) (by decide +kernel)
set_option maxRecDepth 20000 in
theorem gX8_put_X0_replace : GoodIn wsX8_put (wsV RX8 80 RX0 yX0_replace wsX0_replace) := goodIn_app (goodIn_of _ (by decide +kernel)) ggX8_put_X0_replace
theorem dX8_put_0 : decode cX8_put 0 = .ok (.aload_n 0, 1) := by decide +kernel
theorem dX8_put_1 : decode cX8_put 1 = .ok (.iload_n 1, 1) := by decide +kernel
theorem dX8_put_2 : decode cX8_put 2 = .ok (.iload_n 2, 1) := by decide +kernel
theorem dX8_put_3 : decode cX8_put 3 = .ok (.iload_n 3, 1) := by decide +kernel
theorem dX8_put_4 : decode cX8_put 4 = .ok (.invokevirtual 76, 3) := by decide +kernel
theorem dX8_put_7 : decode cX8_put 7 = .ok (.ifCond .eq 11, 3) := by decide +kernel
theorem dX8_put_10 : decode cX8_put 10 = .ok (.iload 4, 2) := by decide +kernel
theorem dX8_put_12 : decode cX8_put 12 = .ok (.invokestatic 65, 3) := by decide +kernel
theorem dX8_put_15 : decode cX8_put 15 = .ok (.ifCond .ne 6, 3) := by decide +kernel
theorem dX8_put_18 : decode cX8_put 18 = .ok (.bipush (-11), 2) := by decide +kernel
theorem dX8_put_20 : decode cX8_put 20 = .ok (.ireturn, 1) := by decide +kernel
theorem dX8_put_21 : decode cX8_put 21 = .ok (.aload_n 0, 1) := by decide +kernel
theorem dX8_put_22 : decode cX8_put 22 = .ok (.getfield 19, 3) := by decide +kernel
theorem dX8_put_25 : decode cX8_put 25 = .ok (.aload_n 0, 1) := by decide +kernel
theorem dX8_put_26 : decode cX8_put 26 = .ok (.getfield 12, 3) := by decide +kernel
theorem dX8_put_29 : decode cX8_put 29 = .ok (.invokevirtual 52, 3) := by decide +kernel
theorem dX8_put_32 : decode cX8_put 32 = .ok (.aload_n 0, 1) := by decide +kernel
theorem dX8_put_33 : decode cX8_put 33 = .ok (.getfield 12, 3) := by decide +kernel
theorem dX8_put_36 : decode cX8_put 36 = .ok (.iload_n 1, 1) := by decide +kernel
theorem dX8_put_37 : decode cX8_put 37 = .ok (.invokevirtual 55, 3) := by decide +kernel
theorem dX8_put_40 : decode cX8_put 40 = .ok (.iload_n 2, 1) := by decide +kernel
theorem dX8_put_41 : decode cX8_put 41 = .ok (.iload_n 3, 1) := by decide +kernel
theorem dX8_put_42 : decode cX8_put 42 = .ok (.iload 4, 2) := by decide +kernel
theorem dX8_put_44 : decode cX8_put 44 = .ok (.invokevirtual 80, 3) := by decide +kernel
theorem dX8_put_47 : decode cX8_put 47 = .ok (.ireturn, 1) := by decide +kernel
set_option maxRecDepth 20000 in
theorem ggX8_drop_X8_isBit : GoodIn wsX8_drop wsX8_isBit := goodIn_r _ [6] (by decide +kernel) (by decide +kernel)
set_option maxRecDepth 20000 in
theorem gX8_drop_X8_isBit : GoodIn wsX8_drop (va_wsS RX8 48 yX8_isBit wsX8_isBit) := goodIn_app (goodIn_of _ (by decide +kernel)) ggX8_drop_X8_isBit
set_option maxRecDepth 20000 in
theorem ggX8_drop_X6_drawer : GoodIn wsX8_drop wsX6_drawer := goodIn_r _ [11, 12, 13, 83, 84, 85, 86, 87, 88] (by decide +kernel) (by decide +kernel)
set_option maxRecDepth 20000 in
theorem gX8_drop_X6_drawer : GoodIn wsX8_drop (wsV RX8 55 RX6 yX6_drawer wsX6_drawer) := goodIn_app (goodIn_of _ (by decide +kernel)) ggX8_drop_X6_drawer
set_option maxRecDepth 20000 in
theorem ggX8_drop_X0_hasCard : GoodIn wsX8_drop wsX0_hasCard := goodIn_r _ [18, 19, 89, 90, 91, 92] (by decide +kernel) (by decide +kernel)
set_option maxRecDepth 20000 in
theorem gX8_drop_X0_hasCard : GoodIn wsX8_drop (wsV RX8 84 RX0 yX0_hasCard wsX0_hasCard) := goodIn_app (goodIn_of _ (by decide +kernel)) ggX8_drop_X0_hasCard
set_option maxRecDepth 20000 in
theorem ggX8_drop_X2_keep : GoodIn wsX8_drop wsX2_keep := goodIn_r _ [24, 25, 26, 27, 28, 29, 30, 31, 32, 33, 34, 35, 36, 10, 37, 12, 13, 38, 39, 40, 41, 42, 43, 44, 17, 45, 46, 47, 48, 19, 49, 50, 51, 52, 53, 54, 55, 56, 57, 58, 59, 60, 61, 62, 63, 64, 65, 66, 67, 68, 93, 94, 95, 96, 97, 83, 84, 85, 86, 87, 88, 89, 90, 91, 92, 98, 99, 100, 101] (by decide +kernel) (by decide +kernel)
set_option maxRecDepth 20000 in
theorem gX8_drop_X2_keep : GoodIn wsX8_drop (wsV RX8 52 RX2 yX2_keep wsX2_keep) := goodIn_app (goodIn_of _ (by decide +kernel)) ggX8_drop_X2_keep
set_option maxRecDepth 20000 in
theorem ggX8_drop_X0_remove : GoodIn wsX8_drop wsX0_remove := goodIn_r _ [72, 19, 46, 73, 56, 57, 52, 58, 54, 74, 75, 76, 77, 89, 90, 91, 92, 98] (by decide +kernel) (by decide +kernel)
set_option maxRecDepth 20000 in
theorem gX8_drop_X0_remove : GoodIn wsX8_drop (wsV RX8 87 RX0 yX0_remove wsX0_remove) := goodIn_app (goodIn_of _ (by decide +kernel)) ggX8_drop_X0_remove
theorem dX8_drop_0 : decode cX8_drop 0 = .ok (.iload_n 1, 1) := by decide +kernel
theorem dX8_drop_1 : decode cX8_drop 1 = .ok (.invokestatic 48, 3) := by decide +kernel
theorem dX8_drop_4 : decode cX8_drop 4 = .ok (.ifCond .eq 18, 3) := by decide +kernel
theorem dX8_drop_7 : decode cX8_drop 7 = .ok (.aload_n 0, 1) := by decide +kernel
theorem dX8_drop_8 : decode cX8_drop 8 = .ok (.getfield 12, 3) := by decide +kernel
theorem dX8_drop_11 : decode cX8_drop 11 = .ok (.iload_n 1, 1) := by decide +kernel
theorem dX8_drop_12 : decode cX8_drop 12 = .ok (.invokevirtual 55, 3) := by decide +kernel
theorem dX8_drop_15 : decode cX8_drop 15 = .ok (.iload_n 2, 1) := by decide +kernel
theorem dX8_drop_16 : decode cX8_drop 16 = .ok (.invokevirtual 84, 3) := by decide +kernel
theorem dX8_drop_19 : decode cX8_drop 19 = .ok (.ifCond .ne 6, 3) := by decide +kernel
theorem dX8_drop_22 : decode cX8_drop 22 = .ok (.bipush (-11), 2) := by decide +kernel
theorem dX8_drop_24 : decode cX8_drop 24 = .ok (.ireturn, 1) := by decide +kernel
theorem dX8_drop_25 : decode cX8_drop 25 = .ok (.aload_n 0, 1) := by decide +kernel
theorem dX8_drop_26 : decode cX8_drop 26 = .ok (.getfield 19, 3) := by decide +kernel
theorem dX8_drop_29 : decode cX8_drop 29 = .ok (.aload_n 0, 1) := by decide +kernel
theorem dX8_drop_30 : decode cX8_drop 30 = .ok (.getfield 12, 3) := by decide +kernel
theorem dX8_drop_33 : decode cX8_drop 33 = .ok (.invokevirtual 52, 3) := by decide +kernel
theorem dX8_drop_36 : decode cX8_drop 36 = .ok (.aload_n 0, 1) := by decide +kernel
theorem dX8_drop_37 : decode cX8_drop 37 = .ok (.getfield 12, 3) := by decide +kernel
theorem dX8_drop_40 : decode cX8_drop 40 = .ok (.iload_n 1, 1) := by decide +kernel
theorem dX8_drop_41 : decode cX8_drop 41 = .ok (.invokevirtual 55, 3) := by decide +kernel
theorem dX8_drop_44 : decode cX8_drop 44 = .ok (.iload_n 2, 1) := by decide +kernel
theorem dX8_drop_45 : decode cX8_drop 45 = .ok (.invokevirtual 87, 3) := by decide +kernel
theorem dX8_drop_48 : decode cX8_drop 48 = .ok (.ireturn, 1) := by decide +kernel
set_option maxRecDepth 20000 in
theorem ggX8_valueOf_X8_isPlace : GoodIn wsX8_valueOf wsX8_isPlace := goodIn_r _ [6, 1, 7, 8, 9, 5, 10, 11, 12, 13, 14, 15, 16, 17, 18, 19, 20, 21, 22, 23, 24, 25, 26, 27, 28, 29, 30, 31, 45, 46, 47, 48, 49, 50, 51, 52, 53, 54, 55, 56, 57, 58, 59] (by decide +kernel) (by decide +kernel)
set_option maxRecDepth 20000 in
theorem gX8_valueOf_X8_isPlace : GoodIn wsX8_valueOf (wsV RX8 76 RX8 yX8_isPlace wsX8_isPlace) := goodIn_app (goodIn_of _ (by decide +kernel)) ggX8_valueOf_X8_isPlace
set_option maxRecDepth 20000 in
theorem ggX8_valueOf_X6_drawer : GoodIn wsX8_valueOf wsX6_drawer := goodIn_r _ [18, 19, 20, 50, 51, 52, 53, 54, 55] (by decide +kernel) (by decide +kernel)
set_option maxRecDepth 20000 in
theorem gX8_valueOf_X6_drawer : GoodIn wsX8_valueOf (wsV RX8 55 RX6 yX6_drawer wsX6_drawer) := goodIn_app (goodIn_of _ (by decide +kernel)) ggX8_valueOf_X6_drawer
set_option maxRecDepth 20000 in
theorem ggX8_valueOf_X0_entry : GoodIn wsX8_valueOf wsX0_entry := goodIn_r _ [35, 36, 37, 28, 29, 24, 30, 31, 38, 22, 23, 25, 26, 39, 40, 41, 42, 43, 44, 56, 57, 58, 59, 60] (by decide +kernel) (by decide +kernel)
set_option maxRecDepth 20000 in
theorem gX8_valueOf_X0_entry : GoodIn wsX8_valueOf (wsV RX8 90 RX0 yX0_entry wsX0_entry) := goodIn_app (goodIn_of _ (by decide +kernel)) ggX8_valueOf_X0_entry
theorem dX8_valueOf_0 : decode cX8_valueOf 0 = .ok (.aload_n 0, 1) := by decide +kernel
theorem dX8_valueOf_1 : decode cX8_valueOf 1 = .ok (.iload_n 1, 1) := by decide +kernel
theorem dX8_valueOf_2 : decode cX8_valueOf 2 = .ok (.iload_n 2, 1) := by decide +kernel
theorem dX8_valueOf_3 : decode cX8_valueOf 3 = .ok (.iload_n 3, 1) := by decide +kernel
theorem dX8_valueOf_4 : decode cX8_valueOf 4 = .ok (.invokevirtual 76, 3) := by decide +kernel
theorem dX8_valueOf_7 : decode cX8_valueOf 7 = .ok (.ifCond .ne 6, 3) := by decide +kernel
theorem dX8_valueOf_10 : decode cX8_valueOf 10 = .ok (.bipush (-11), 2) := by decide +kernel
theorem dX8_valueOf_12 : decode cX8_valueOf 12 = .ok (.ireturn, 1) := by decide +kernel
theorem dX8_valueOf_13 : decode cX8_valueOf 13 = .ok (.aload_n 0, 1) := by decide +kernel
theorem dX8_valueOf_14 : decode cX8_valueOf 14 = .ok (.getfield 12, 3) := by decide +kernel
theorem dX8_valueOf_17 : decode cX8_valueOf 17 = .ok (.iload_n 1, 1) := by decide +kernel
theorem dX8_valueOf_18 : decode cX8_valueOf 18 = .ok (.invokevirtual 55, 3) := by decide +kernel
theorem dX8_valueOf_21 : decode cX8_valueOf 21 = .ok (.iload_n 2, 1) := by decide +kernel
theorem dX8_valueOf_22 : decode cX8_valueOf 22 = .ok (.iload_n 3, 1) := by decide +kernel
theorem dX8_valueOf_23 : decode cX8_valueOf 23 = .ok (.invokevirtual 90, 3) := by decide +kernel
theorem dX8_valueOf_26 : decode cX8_valueOf 26 = .ok (.ireturn, 1) := by decide +kernel
set_option maxRecDepth 20000 in
theorem ggX8_cell_X8_isCell : GoodIn wsX8_cell wsX8_isCell := goodIn_r _ [7, 2, 8, 9, 6, 10, 11, 12, 13, 14, 15, 16, 17, 18, 19, 20, 21, 22, 23, 96, 97, 98, 99, 100, 101, 102, 103, 104, 105, 106, 107, 108, 109, 110] (by decide +kernel) (by decide +kernel)
set_option maxRecDepth 20000 in
theorem gX8_cell_X8_isCell : GoodIn wsX8_cell (wsV RX8 94 RX8 yX8_isCell wsX8_isCell) := goodIn_app (goodIn_of _ (by decide +kernel)) ggX8_cell_X8_isCell
set_option maxRecDepth 20000 in
theorem ggX8_cell_X8_isContent : GoodIn wsX8_cell wsX8_isContent := goodIn_r _ [26, 27, 28, 6, 29] (by decide +kernel) (by decide +kernel)
set_option maxRecDepth 20000 in
theorem gX8_cell_X8_isContent : GoodIn wsX8_cell (va_wsS RX8 98 yX8_isContent wsX8_isContent) := goodIn_app (goodIn_of _ (by decide +kernel)) ggX8_cell_X8_isContent
set_option maxRecDepth 20000 in
theorem ggX8_cell_X2_keep : GoodIn wsX8_cell wsX2_keep := goodIn_r _ [34, 35, 36, 37, 38, 39, 40, 41, 42, 43, 44, 45, 46, 14, 47, 16, 17, 48, 49, 50, 51, 52, 53, 54, 21, 55, 56, 57, 23, 58, 59, 60, 61, 62, 63, 64, 65, 66, 67, 68, 69, 70, 71, 72, 73, 74, 75, 76, 77, 78, 111, 112, 113, 114, 115, 101, 102, 103, 104, 105, 106, 107, 108, 109, 110, 116, 117, 118, 119] (by decide +kernel) (by decide +kernel)
set_option maxRecDepth 20000 in
theorem gX8_cell_X2_keep : GoodIn wsX8_cell (wsV RX8 52 RX2 yX2_keep wsX2_keep) := goodIn_app (goodIn_of _ (by decide +kernel)) ggX8_cell_X2_keep
set_option maxRecDepth 20000 in
theorem ggX8_cell_X6_drawer : GoodIn wsX8_cell wsX6_drawer := goodIn_r _ [15, 16, 17, 101, 102, 103, 104, 105, 106] (by decide +kernel) (by decide +kernel)
set_option maxRecDepth 20000 in
theorem gX8_cell_X6_drawer : GoodIn wsX8_cell (wsV RX8 55 RX6 yX6_drawer wsX6_drawer) := goodIn_app (goodIn_of _ (by decide +kernel)) ggX8_cell_X6_drawer
set_option maxRecDepth 20000 in
theorem ggX8_cell_X0_example : GoodIn wsX8_cell wsX0_example := goodIn_r _ [82, 57, 107, 108, 109, 110] (by decide +kernel) (by decide +kernel)
set_option maxRecDepth 20000 in
theorem gX8_cell_X0_example : GoodIn wsX8_cell (wsV RX8 101 RX0 yX0_example wsX0_example) := goodIn_app (goodIn_of _ (by decide +kernel)) ggX8_cell_X0_example
set_option maxRecDepth 20000 in
theorem ggX8_cell_X1_kindAt : GoodIn wsX8_cell wsX1_kindAt := goodIn_r _ [86, 74, 87, 66, 67, 62, 68, 64, 117, 118, 119, 116] (by decide +kernel) (by decide +kernel)
set_option maxRecDepth 20000 in
theorem gX8_cell_X1_kindAt : GoodIn wsX8_cell (wsV RX8 105 RX1 yX1_kindAt wsX1_kindAt) := goodIn_app (goodIn_of _ (by decide +kernel)) ggX8_cell_X1_kindAt
set_option maxRecDepth 20000 in
theorem ggX8_cell_X1_fill : GoodIn wsX8_cell wsX1_fill := goodIn_r _ [91, 74, 75, 76, 92, 93, 94, 62, 95, 64, 117, 118, 119, 116] (by decide +kernel) (by decide +kernel)
set_option maxRecDepth 20000 in
theorem gX8_cell_X1_fill : GoodIn wsX8_cell (wsV RX8 110 RX1 yX1_fill wsX1_fill) := goodIn_app (goodIn_of _ (by decide +kernel)) ggX8_cell_X1_fill
theorem dX8_cell_0 : decode cX8_cell 0 = .ok (.aload_n 0, 1) := by decide +kernel
theorem dX8_cell_1 : decode cX8_cell 1 = .ok (.iload_n 1, 1) := by decide +kernel
theorem dX8_cell_2 : decode cX8_cell 2 = .ok (.iload_n 2, 1) := by decide +kernel
theorem dX8_cell_3 : decode cX8_cell 3 = .ok (.invokevirtual 94, 3) := by decide +kernel
theorem dX8_cell_6 : decode cX8_cell 6 = .ok (.ifCond .eq 14, 3) := by decide +kernel
theorem dX8_cell_9 : decode cX8_cell 9 = .ok (.iload_n 3, 1) := by decide +kernel
theorem dX8_cell_10 : decode cX8_cell 10 = .ok (.iload 4, 2) := by decide +kernel
theorem dX8_cell_12 : decode cX8_cell 12 = .ok (.iload 5, 2) := by decide +kernel
theorem dX8_cell_14 : decode cX8_cell 14 = .ok (.invokestatic 98, 3) := by decide +kernel
theorem dX8_cell_17 : decode cX8_cell 17 = .ok (.ifCond .ne 6, 3) := by decide +kernel
theorem dX8_cell_20 : decode cX8_cell 20 = .ok (.bipush (-11), 2) := by decide +kernel
theorem dX8_cell_22 : decode cX8_cell 22 = .ok (.ireturn, 1) := by decide +kernel
theorem dX8_cell_23 : decode cX8_cell 23 = .ok (.aload_n 0, 1) := by decide +kernel
theorem dX8_cell_24 : decode cX8_cell 24 = .ok (.getfield 19, 3) := by decide +kernel
theorem dX8_cell_27 : decode cX8_cell 27 = .ok (.aload_n 0, 1) := by decide +kernel
theorem dX8_cell_28 : decode cX8_cell 28 = .ok (.getfield 12, 3) := by decide +kernel
theorem dX8_cell_31 : decode cX8_cell 31 = .ok (.invokevirtual 52, 3) := by decide +kernel
theorem dX8_cell_34 : decode cX8_cell 34 = .ok (.aload_n 0, 1) := by decide +kernel
theorem dX8_cell_35 : decode cX8_cell 35 = .ok (.getfield 12, 3) := by decide +kernel
theorem dX8_cell_38 : decode cX8_cell 38 = .ok (.iload_n 1, 1) := by decide +kernel
theorem dX8_cell_39 : decode cX8_cell 39 = .ok (.invokevirtual 55, 3) := by decide +kernel
theorem dX8_cell_42 : decode cX8_cell 42 = .ok (.invokevirtual 101, 3) := by decide +kernel
theorem dX8_cell_45 : decode cX8_cell 45 = .ok (.astore 6, 2) := by decide +kernel
theorem dX8_cell_47 : decode cX8_cell 47 = .ok (.aload 6, 2) := by decide +kernel
theorem dX8_cell_49 : decode cX8_cell 49 = .ok (.iload_n 2, 1) := by decide +kernel
theorem dX8_cell_50 : decode cX8_cell 50 = .ok (.invokevirtual 105, 3) := by decide +kernel
theorem dX8_cell_53 : decode cX8_cell 53 = .ok (.istore 7, 2) := by decide +kernel
theorem dX8_cell_55 : decode cX8_cell 55 = .ok (.aload 6, 2) := by decide +kernel
theorem dX8_cell_57 : decode cX8_cell 57 = .ok (.iload_n 2, 1) := by decide +kernel
theorem dX8_cell_58 : decode cX8_cell 58 = .ok (.iload_n 3, 1) := by decide +kernel
theorem dX8_cell_59 : decode cX8_cell 59 = .ok (.iload 4, 2) := by decide +kernel
theorem dX8_cell_61 : decode cX8_cell 61 = .ok (.iload 5, 2) := by decide +kernel
theorem dX8_cell_63 : decode cX8_cell 63 = .ok (.invokevirtual 110, 3) := by decide +kernel
theorem dX8_cell_66 : decode cX8_cell 66 = .ok (.iload 7, 2) := by decide +kernel
theorem dX8_cell_68 : decode cX8_cell 68 = .ok (.ireturn, 1) := by decide +kernel
set_option maxRecDepth 20000 in
theorem ggX8_clear_X8_isBit : GoodIn wsX8_clear wsX8_isBit := goodIn_r _ [6] (by decide +kernel) (by decide +kernel)
set_option maxRecDepth 20000 in
theorem gX8_clear_X8_isBit : GoodIn wsX8_clear (va_wsS RX8 48 yX8_isBit wsX8_isBit) := goodIn_app (goodIn_of _ (by decide +kernel)) ggX8_clear_X8_isBit
set_option maxRecDepth 20000 in
theorem ggX8_clear_X2_keep : GoodIn wsX8_clear wsX2_keep := goodIn_r _ [11, 12, 13, 14, 15, 16, 17, 18, 19, 20, 21, 22, 23, 24, 25, 26, 27, 28, 29, 30, 31, 32, 33, 34, 35, 36, 37, 38, 39, 40, 41, 42, 43, 44, 45, 46, 47, 48, 49, 50, 51, 52, 53, 54, 55, 56, 57, 58, 59, 60, 87, 88, 89, 90, 91, 92, 93, 94, 95, 96, 97, 98, 99, 100, 101, 102, 103, 104, 105] (by decide +kernel) (by decide +kernel)
set_option maxRecDepth 20000 in
theorem gX8_clear_X2_keep : GoodIn wsX8_clear (wsV RX8 52 RX2 yX2_keep wsX2_keep) := goodIn_app (goodIn_of _ (by decide +kernel)) ggX8_clear_X2_keep
set_option maxRecDepth 20000 in
theorem ggX8_clear_X6_drawer : GoodIn wsX8_clear wsX6_drawer := goodIn_r _ [64, 26, 27, 92, 93, 94, 95, 96, 97] (by decide +kernel) (by decide +kernel)
set_option maxRecDepth 20000 in
theorem gX8_clear_X6_drawer : GoodIn wsX8_clear (wsV RX8 55 RX6 yX6_drawer wsX6_drawer) := goodIn_app (goodIn_of _ (by decide +kernel)) ggX8_clear_X6_drawer
set_option maxRecDepth 20000 in
theorem ggX8_clear_X0_example : GoodIn wsX8_clear wsX0_example := goodIn_r _ [68, 38, 98, 99, 100, 101] (by decide +kernel) (by decide +kernel)
set_option maxRecDepth 20000 in
theorem gX8_clear_X0_example : GoodIn wsX8_clear (wsV RX8 101 RX0 yX0_example wsX0_example) := goodIn_app (goodIn_of _ (by decide +kernel)) ggX8_clear_X0_example
set_option maxRecDepth 20000 in
theorem ggX8_clear_X1_otherKinds : GoodIn wsX8_clear wsX1_otherKinds := goodIn_r _ [72, 56, 73, 48, 49, 44, 50, 46, 103, 104, 105, 102] (by decide +kernel) (by decide +kernel)
set_option maxRecDepth 20000 in
theorem gX8_clear_X1_otherKinds : GoodIn wsX8_clear (wsV RX8 114 RX1 yX1_otherKinds wsX1_otherKinds) := goodIn_app (goodIn_of _ (by decide +kernel)) ggX8_clear_X1_otherKinds
set_option maxRecDepth 20000 in
theorem ggX8_clear_X1_wipe : GoodIn wsX8_clear wsX1_wipe := goodIn_r _ [77, 56, 57, 58, 78, 79, 80, 44, 81, 46, 103, 104, 105, 102] (by decide +kernel) (by decide +kernel)
set_option maxRecDepth 20000 in
theorem gX8_clear_X1_wipe : GoodIn wsX8_clear (wsV RX8 117 RX1 yX1_wipe wsX1_wipe) := goodIn_app (goodIn_of _ (by decide +kernel)) ggX8_clear_X1_wipe
theorem dX8_clear_0 : decode cX8_clear 0 = .ok (.iload_n 1, 1) := by decide +kernel
theorem dX8_clear_1 : decode cX8_clear 1 = .ok (.invokestatic 48, 3) := by decide +kernel
theorem dX8_clear_4 : decode cX8_clear 4 = .ok (.ifCond .ne 6, 3) := by decide +kernel
theorem dX8_clear_7 : decode cX8_clear 7 = .ok (.bipush (-11), 2) := by decide +kernel
theorem dX8_clear_9 : decode cX8_clear 9 = .ok (.ireturn, 1) := by decide +kernel
theorem dX8_clear_10 : decode cX8_clear 10 = .ok (.aload_n 0, 1) := by decide +kernel
theorem dX8_clear_11 : decode cX8_clear 11 = .ok (.getfield 19, 3) := by decide +kernel
theorem dX8_clear_14 : decode cX8_clear 14 = .ok (.aload_n 0, 1) := by decide +kernel
theorem dX8_clear_15 : decode cX8_clear 15 = .ok (.getfield 12, 3) := by decide +kernel
theorem dX8_clear_18 : decode cX8_clear 18 = .ok (.invokevirtual 52, 3) := by decide +kernel
theorem dX8_clear_21 : decode cX8_clear 21 = .ok (.aload_n 0, 1) := by decide +kernel
theorem dX8_clear_22 : decode cX8_clear 22 = .ok (.getfield 12, 3) := by decide +kernel
theorem dX8_clear_25 : decode cX8_clear 25 = .ok (.iload_n 1, 1) := by decide +kernel
theorem dX8_clear_26 : decode cX8_clear 26 = .ok (.invokevirtual 55, 3) := by decide +kernel
theorem dX8_clear_29 : decode cX8_clear 29 = .ok (.invokevirtual 101, 3) := by decide +kernel
theorem dX8_clear_32 : decode cX8_clear 32 = .ok (.astore_n 2, 1) := by decide +kernel
theorem dX8_clear_33 : decode cX8_clear 33 = .ok (.aload_n 2, 1) := by decide +kernel
theorem dX8_clear_34 : decode cX8_clear 34 = .ok (.invokevirtual 114, 3) := by decide +kernel
theorem dX8_clear_37 : decode cX8_clear 37 = .ok (.istore_n 3, 1) := by decide +kernel
theorem dX8_clear_38 : decode cX8_clear 38 = .ok (.aload_n 2, 1) := by decide +kernel
theorem dX8_clear_39 : decode cX8_clear 39 = .ok (.invokevirtual 117, 3) := by decide +kernel
theorem dX8_clear_42 : decode cX8_clear 42 = .ok (.iload_n 3, 1) := by decide +kernel
theorem dX8_clear_43 : decode cX8_clear 43 = .ok (.ireturn, 1) := by decide +kernel
set_option maxRecDepth 20000 in
theorem ggX8_both_X8_isBit : GoodIn wsX8_both wsX8_isBit := goodIn_r _ [6] (by decide +kernel) (by decide +kernel)
set_option maxRecDepth 20000 in
theorem gX8_both_X8_isBit : GoodIn wsX8_both (va_wsS RX8 48 yX8_isBit wsX8_isBit) := goodIn_app (goodIn_of _ (by decide +kernel)) ggX8_both_X8_isBit
set_option maxRecDepth 20000 in
theorem ggX8_both_X2_keep : GoodIn wsX8_both wsX2_keep := goodIn_r _ [11, 12, 13, 14, 15, 16, 17, 18, 19, 20, 21, 22, 23, 24, 25, 26, 27, 28, 29, 30, 31, 32, 33, 34, 35, 36, 37, 38, 39, 40, 41, 42, 43, 44, 45, 46, 47, 48, 49, 50, 51, 52, 53, 54, 55, 56, 57, 58, 59, 60, 70, 71, 72, 73, 74, 75, 76, 77, 78, 79, 80, 81, 82, 83, 84, 85, 86, 87, 88] (by decide +kernel) (by decide +kernel)
set_option maxRecDepth 20000 in
theorem gX8_both_X2_keep : GoodIn wsX8_both (wsV RX8 52 RX2 yX2_keep wsX2_keep) := goodIn_app (goodIn_of _ (by decide +kernel)) ggX8_both_X2_keep
set_option maxRecDepth 20000 in
theorem ggX8_both_X6_askBoth : GoodIn wsX8_both wsX6_askBoth := goodIn_r _ [64, 30, 75, 76, 77, 78, 79, 80] (by decide +kernel) (by decide +kernel)
set_option maxRecDepth 20000 in
theorem gX8_both_X6_askBoth : GoodIn wsX8_both (wsV RX8 120 RX6 yX6_askBoth wsX6_askBoth) := goodIn_app (goodIn_of _ (by decide +kernel)) ggX8_both_X6_askBoth
theorem dX8_both_0 : decode cX8_both 0 = .ok (.iload_n 1, 1) := by decide +kernel
theorem dX8_both_1 : decode cX8_both 1 = .ok (.invokestatic 48, 3) := by decide +kernel
theorem dX8_both_4 : decode cX8_both 4 = .ok (.ifCond .ne 6, 3) := by decide +kernel
theorem dX8_both_7 : decode cX8_both 7 = .ok (.bipush (-11), 2) := by decide +kernel
theorem dX8_both_9 : decode cX8_both 9 = .ok (.ireturn, 1) := by decide +kernel
theorem dX8_both_10 : decode cX8_both 10 = .ok (.aload_n 0, 1) := by decide +kernel
theorem dX8_both_11 : decode cX8_both 11 = .ok (.getfield 19, 3) := by decide +kernel
theorem dX8_both_14 : decode cX8_both 14 = .ok (.aload_n 0, 1) := by decide +kernel
theorem dX8_both_15 : decode cX8_both 15 = .ok (.getfield 12, 3) := by decide +kernel
theorem dX8_both_18 : decode cX8_both 18 = .ok (.invokevirtual 52, 3) := by decide +kernel
theorem dX8_both_21 : decode cX8_both 21 = .ok (.aload_n 0, 1) := by decide +kernel
theorem dX8_both_22 : decode cX8_both 22 = .ok (.getfield 12, 3) := by decide +kernel
theorem dX8_both_25 : decode cX8_both 25 = .ok (.iload_n 1, 1) := by decide +kernel
theorem dX8_both_26 : decode cX8_both 26 = .ok (.invokevirtual 120, 3) := by decide +kernel
theorem dX8_both_29 : decode cX8_both 29 = .ok (.ireturn, 1) := by decide +kernel
set_option maxRecDepth 20000 in
theorem ggX8_order_X8_isBit : GoodIn wsX8_order wsX8_isBit := goodIn_r _ [7] (by decide +kernel) (by decide +kernel)
set_option maxRecDepth 20000 in
theorem gX8_order_X8_isBit : GoodIn wsX8_order (va_wsS RX8 48 yX8_isBit wsX8_isBit) := goodIn_app (goodIn_of _ (by decide +kernel)) ggX8_order_X8_isBit
set_option maxRecDepth 20000 in
theorem ggX8_order_X2_keep : GoodIn wsX8_order wsX2_keep := goodIn_r _ [12, 13, 14, 15, 16, 17, 18, 19, 20, 21, 22, 23, 24, 25, 26, 27, 28, 29, 30, 31, 32, 33, 34, 35, 36, 37, 38, 39, 40, 41, 42, 43, 44, 45, 46, 47, 48, 49, 50, 51, 52, 53, 54, 55, 56, 57, 58, 59, 60, 61, 159, 160, 161, 162, 163, 164, 165, 166, 167, 168, 169, 170, 171, 172, 173, 174, 175, 176, 177] (by decide +kernel) (by decide +kernel)
set_option maxRecDepth 20000 in
theorem gX8_order_X2_keep : GoodIn wsX8_order (wsV RX8 52 RX2 yX2_keep wsX2_keep) := goodIn_app (goodIn_of _ (by decide +kernel)) ggX8_order_X2_keep
set_option maxRecDepth 20000 in
theorem ggX8_order_X6_setOrder : GoodIn wsX8_order wsX6_setOrder := goodIn_r _ [65, 29, 30, 66, 67, 68, 45, 69, 47, 164, 165, 166, 167, 168, 169, 174] (by decide +kernel) (by decide +kernel)
set_option maxRecDepth 20000 in
theorem gX8_order_X6_setOrder : GoodIn wsX8_order (wsV RX8 123 RX6 yX6_setOrder wsX6_setOrder) := goodIn_app (goodIn_of _ (by decide +kernel)) ggX8_order_X6_setOrder
set_option maxRecDepth 20000 in
theorem ggX8_order_X5_find : GoodIn wsX8_order wsX5_find := goodIn_r _ [74, 75, 76, 77, 78, 79, 80, 73, 81, 82, 83, 84, 85, 86, 45, 87, 47, 88, 89, 90, 25, 91, 27, 28, 92, 93, 94, 36, 95, 39, 96, 97, 98, 99, 100, 101, 102, 103, 40, 104, 105, 106, 107, 31, 108, 109, 110, 55, 111, 57, 112, 49, 50, 51, 113, 114, 115, 116, 58, 117, 67, 68, 69, 118, 119, 120, 121, 122, 123, 124, 125, 41, 126, 127, 128, 129, 130, 131, 132, 133, 134, 135, 136, 137, 138, 139, 140, 141, 142, 38, 143, 144, 145, 146, 147, 148, 149, 150, 151, 152, 59, 153, 178, 179, 180, 181, 182, 183, 174, 164, 165, 166, 167, 168, 169, 170, 171, 172, 173, 175, 176, 177] (by decide +kernel) (by decide +kernel)
set_option maxRecDepth 20000 in
theorem gX8_order_X5_find : GoodIn wsX8_order (wsV RX8 127 RX5 yX5_find wsX5_find) := goodIn_app (goodIn_of _ (by decide +kernel)) ggX8_order_X5_find
theorem dX8_order_0 : decode cX8_order 0 = .ok (.iload_n 1, 1) := by decide +kernel
theorem dX8_order_1 : decode cX8_order 1 = .ok (.invokestatic 48, 3) := by decide +kernel
theorem dX8_order_4 : decode cX8_order 4 = .ok (.ifCond .eq 21, 3) := by decide +kernel
theorem dX8_order_7 : decode cX8_order 7 = .ok (.iload_n 2, 1) := by decide +kernel
theorem dX8_order_8 : decode cX8_order 8 = .ok (.iconst (-1), 1) := by decide +kernel
theorem dX8_order_9 : decode cX8_order 9 = .ok (.if_icmp .lt 16, 3) := by decide +kernel
theorem dX8_order_12 : decode cX8_order 12 = .ok (.iload_n 2, 1) := by decide +kernel
theorem dX8_order_13 : decode cX8_order 13 = .ok (.bipush 8, 2) := by decide +kernel
theorem dX8_order_15 : decode cX8_order 15 = .ok (.if_icmp .ge 10, 3) := by decide +kernel
theorem dX8_order_18 : decode cX8_order 18 = .ok (.iload_n 3, 1) := by decide +kernel
theorem dX8_order_19 : decode cX8_order 19 = .ok (.invokestatic 48, 3) := by decide +kernel
theorem dX8_order_22 : decode cX8_order 22 = .ok (.ifCond .ne 6, 3) := by decide +kernel
theorem dX8_order_25 : decode cX8_order 25 = .ok (.bipush (-11), 2) := by decide +kernel
theorem dX8_order_27 : decode cX8_order 27 = .ok (.ireturn, 1) := by decide +kernel
theorem dX8_order_28 : decode cX8_order 28 = .ok (.aload_n 0, 1) := by decide +kernel
theorem dX8_order_29 : decode cX8_order 29 = .ok (.getfield 19, 3) := by decide +kernel
theorem dX8_order_32 : decode cX8_order 32 = .ok (.aload_n 0, 1) := by decide +kernel
theorem dX8_order_33 : decode cX8_order 33 = .ok (.getfield 12, 3) := by decide +kernel
theorem dX8_order_36 : decode cX8_order 36 = .ok (.invokevirtual 52, 3) := by decide +kernel
theorem dX8_order_39 : decode cX8_order 39 = .ok (.aload_n 0, 1) := by decide +kernel
theorem dX8_order_40 : decode cX8_order 40 = .ok (.getfield 12, 3) := by decide +kernel
theorem dX8_order_43 : decode cX8_order 43 = .ok (.iload_n 1, 1) := by decide +kernel
theorem dX8_order_44 : decode cX8_order 44 = .ok (.iload_n 2, 1) := by decide +kernel
theorem dX8_order_45 : decode cX8_order 45 = .ok (.iload_n 3, 1) := by decide +kernel
theorem dX8_order_46 : decode cX8_order 46 = .ok (.invokevirtual 123, 3) := by decide +kernel
theorem dX8_order_49 : decode cX8_order 49 = .ok (.aload_n 0, 1) := by decide +kernel
theorem dX8_order_50 : decode cX8_order 50 = .ok (.getfield 28, 3) := by decide +kernel
theorem dX8_order_53 : decode cX8_order 53 = .ok (.iconst (-1), 1) := by decide +kernel
theorem dX8_order_54 : decode cX8_order 54 = .ok (.invokevirtual 127, 3) := by decide +kernel
theorem dX8_order_57 : decode cX8_order 57 = .ok (.ireturn, 1) := by decide +kernel
set_option maxRecDepth 20000 in
theorem ggX8_show_X2_keep : GoodIn wsX8_show wsX2_keep := goodIn_r _ [8, 9, 10, 11, 12, 13, 14, 15, 16, 17, 18, 19, 20, 21, 22, 23, 24, 25, 26, 27, 28, 29, 30, 31, 32, 33, 34, 35, 36, 37, 38, 39, 40, 41, 42, 43, 44, 45, 46, 47, 48, 49, 50, 51, 52, 53, 54, 55, 56, 57, 177, 178, 179, 180, 181, 182, 183, 184, 185, 186, 187, 188, 189, 190, 191, 192, 193, 194, 195] (by decide +kernel) (by decide +kernel)
set_option maxRecDepth 20000 in
theorem gX8_show_X2_keep : GoodIn wsX8_show (wsV RX8 52 RX2 yX2_keep wsX2_keep) := goodIn_app (goodIn_of _ (by decide +kernel)) ggX8_show_X2_keep
set_option maxRecDepth 20000 in
theorem ggX8_show_X6_setShown : GoodIn wsX8_show wsX6_setShown := goodIn_r _ [61, 28, 182, 183, 184, 185, 186, 187] (by decide +kernel) (by decide +kernel)
set_option maxRecDepth 20000 in
theorem gX8_show_X6_setShown : GoodIn wsX8_show (wsV RX8 130 RX6 yX6_setShown wsX6_setShown) := goodIn_app (goodIn_of _ (by decide +kernel)) ggX8_show_X6_setShown
set_option maxRecDepth 20000 in
theorem ggX8_show_X5_countUnlike : GoodIn wsX8_show wsX5_countUnlike := goodIn_r _ [66, 67, 68, 69, 70, 71, 72, 65, 73, 74, 75, 76, 77, 78, 79, 80, 81, 82, 83, 41, 84, 43, 85, 86, 87, 21, 88, 23, 24, 89, 90, 91, 32, 92, 35, 93, 94, 95, 96, 97, 98, 99, 100, 36, 101, 102, 103, 104, 27, 105, 106, 107, 51, 108, 53, 109, 45, 46, 47, 110, 111, 112, 113, 54, 114, 115, 116, 117, 118, 119, 120, 121, 122, 123, 124, 125, 37, 126, 127, 128, 129, 130, 131, 132, 133, 134, 135, 136, 137, 138, 139, 140, 141, 142, 34, 143, 144, 145, 146, 147, 148, 149, 150, 151, 152, 55, 153, 154, 155, 156, 157, 158, 159, 160, 161, 162, 163, 164, 165, 166, 28, 167, 168, 169, 170, 171, 196, 197, 198, 199, 200, 201, 192, 182, 183, 184, 185, 186, 187, 188, 189, 190, 191, 193, 194, 195] (by decide +kernel) (by decide +kernel)
set_option maxRecDepth 20000 in
theorem gX8_show_X5_countUnlike : GoodIn wsX8_show (wsV RX8 134 RX5 yX5_countUnlike wsX5_countUnlike) := goodIn_app (goodIn_of _ (by decide +kernel)) ggX8_show_X5_countUnlike
theorem dX8_show_0 : decode cX8_show 0 = .ok (.iload_n 1, 1) := by decide +kernel
theorem dX8_show_1 : decode cX8_show 1 = .ok (.ifCond .lt 10, 3) := by decide +kernel
theorem dX8_show_4 : decode cX8_show 4 = .ok (.iload_n 1, 1) := by decide +kernel
theorem dX8_show_5 : decode cX8_show 5 = .ok (.sipush 255, 3) := by decide +kernel
theorem dX8_show_8 : decode cX8_show 8 = .ok (.if_icmp .le 6, 3) := by decide +kernel
theorem dX8_show_11 : decode cX8_show 11 = .ok (.bipush (-11), 2) := by decide +kernel
theorem dX8_show_13 : decode cX8_show 13 = .ok (.ireturn, 1) := by decide +kernel
theorem dX8_show_14 : decode cX8_show 14 = .ok (.aload_n 0, 1) := by decide +kernel
theorem dX8_show_15 : decode cX8_show 15 = .ok (.getfield 19, 3) := by decide +kernel
theorem dX8_show_18 : decode cX8_show 18 = .ok (.aload_n 0, 1) := by decide +kernel
theorem dX8_show_19 : decode cX8_show 19 = .ok (.getfield 12, 3) := by decide +kernel
theorem dX8_show_22 : decode cX8_show 22 = .ok (.invokevirtual 52, 3) := by decide +kernel
theorem dX8_show_25 : decode cX8_show 25 = .ok (.aload_n 0, 1) := by decide +kernel
theorem dX8_show_26 : decode cX8_show 26 = .ok (.getfield 12, 3) := by decide +kernel
theorem dX8_show_29 : decode cX8_show 29 = .ok (.iload_n 1, 1) := by decide +kernel
theorem dX8_show_30 : decode cX8_show 30 = .ok (.invokevirtual 130, 3) := by decide +kernel
theorem dX8_show_33 : decode cX8_show 33 = .ok (.aload_n 0, 1) := by decide +kernel
theorem dX8_show_34 : decode cX8_show 34 = .ok (.getfield 28, 3) := by decide +kernel
theorem dX8_show_37 : decode cX8_show 37 = .ok (.invokevirtual 134, 3) := by decide +kernel
theorem dX8_show_40 : decode cX8_show 40 = .ok (.ireturn, 1) := by decide +kernel
set_option maxRecDepth 20000 in
theorem ggX8_cellOf_X8_isCell : GoodIn wsX8_cellOf wsX8_isCell := goodIn_r _ [6, 1, 7, 8, 5, 9, 10, 11, 12, 13, 14, 15, 16, 17, 18, 19, 20, 21, 22, 70, 71, 72, 73, 74, 75, 76, 77, 78, 79, 80, 81, 82, 83, 84] (by decide +kernel) (by decide +kernel)
set_option maxRecDepth 20000 in
theorem gX8_cellOf_X8_isCell : GoodIn wsX8_cellOf (wsV RX8 94 RX8 yX8_isCell wsX8_isCell) := goodIn_app (goodIn_of _ (by decide +kernel)) ggX8_cellOf_X8_isCell
set_option maxRecDepth 20000 in
theorem ggX8_cellOf_X6_drawer : GoodIn wsX8_cellOf wsX6_drawer := goodIn_r _ [14, 15, 16, 75, 76, 77, 78, 79, 80] (by decide +kernel) (by decide +kernel)
set_option maxRecDepth 20000 in
theorem gX8_cellOf_X6_drawer : GoodIn wsX8_cellOf (wsV RX8 55 RX6 yX6_drawer wsX6_drawer) := goodIn_app (goodIn_of _ (by decide +kernel)) ggX8_cellOf_X6_drawer
set_option maxRecDepth 20000 in
theorem ggX8_cellOf_X0_example : GoodIn wsX8_cellOf wsX0_example := goodIn_r _ [26, 27, 81, 82, 83, 84] (by decide +kernel) (by decide +kernel)
set_option maxRecDepth 20000 in
theorem gX8_cellOf_X0_example : GoodIn wsX8_cellOf (wsV RX8 101 RX0 yX0_example wsX0_example) := goodIn_app (goodIn_of _ (by decide +kernel)) ggX8_cellOf_X0_example
set_option maxRecDepth 20000 in
theorem ggX8_cellOf_X1_kindAt : GoodIn wsX8_cellOf wsX1_kindAt := goodIn_r _ [32, 33, 34, 35, 36, 37, 38, 39, 85, 86, 87, 88] (by decide +kernel) (by decide +kernel)
set_option maxRecDepth 20000 in
theorem gX8_cellOf_X1_kindAt : GoodIn wsX8_cellOf (wsV RX8 105 RX1 yX1_kindAt wsX1_kindAt) := goodIn_app (goodIn_of _ (by decide +kernel)) ggX8_cellOf_X1_kindAt
set_option maxRecDepth 20000 in
theorem ggX8_cellOf_X1_firstAt : GoodIn wsX8_cellOf wsX1_firstAt := goodIn_r _ [43, 44, 34, 35, 36, 37, 38, 39, 85, 86, 87, 88] (by decide +kernel) (by decide +kernel)
set_option maxRecDepth 20000 in
theorem gX8_cellOf_X1_firstAt : GoodIn wsX8_cellOf (wsV RX8 137 RX1 yX1_firstAt wsX1_firstAt) := goodIn_app (goodIn_of _ (by decide +kernel)) ggX8_cellOf_X1_firstAt
set_option maxRecDepth 20000 in
theorem ggX8_cellOf_X1_secondAt : GoodIn wsX8_cellOf wsX1_secondAt := goodIn_r _ [48, 49, 34, 35, 36, 37, 38, 39, 85, 86, 87, 88] (by decide +kernel) (by decide +kernel)
set_option maxRecDepth 20000 in
theorem gX8_cellOf_X1_secondAt : GoodIn wsX8_cellOf (wsV RX8 140 RX1 yX1_secondAt wsX1_secondAt) := goodIn_app (goodIn_of _ (by decide +kernel)) ggX8_cellOf_X1_secondAt
set_option maxRecDepth 20000 in
theorem ggX8_cellOf_X0_countFitting : GoodIn wsX8_cellOf wsX0_countFitting := goodIn_r _ [53, 54, 27, 55, 56, 57, 20, 58, 59, 60, 61, 62, 63, 64, 18, 19, 21, 22, 65, 35, 36, 37, 38, 39, 66, 67, 68, 31, 69, 33, 44, 49, 34, 81, 82, 83, 84, 88, 85, 86, 87] (by decide +kernel) (by decide +kernel)
set_option maxRecDepth 20000 in
theorem gX8_cellOf_X0_countFitting : GoodIn wsX8_cellOf (wsV RX8 143 RX0 yX0_countFitting wsX0_countFitting) := goodIn_app (goodIn_of _ (by decide +kernel)) ggX8_cellOf_X0_countFitting
theorem dX8_cellOf_0 : decode cX8_cellOf 0 = .ok (.aload_n 0, 1) := by decide +kernel
theorem dX8_cellOf_1 : decode cX8_cellOf 1 = .ok (.iload_n 1, 1) := by decide +kernel
theorem dX8_cellOf_2 : decode cX8_cellOf 2 = .ok (.iload_n 2, 1) := by decide +kernel
theorem dX8_cellOf_3 : decode cX8_cellOf 3 = .ok (.invokevirtual 94, 3) := by decide +kernel
theorem dX8_cellOf_6 : decode cX8_cellOf 6 = .ok (.ifCond .eq 12, 3) := by decide +kernel
theorem dX8_cellOf_9 : decode cX8_cellOf 9 = .ok (.iload_n 3, 1) := by decide +kernel
theorem dX8_cellOf_10 : decode cX8_cellOf 10 = .ok (.ifCond .lt 8, 3) := by decide +kernel
theorem dX8_cellOf_13 : decode cX8_cellOf 13 = .ok (.iload_n 3, 1) := by decide +kernel
theorem dX8_cellOf_14 : decode cX8_cellOf 14 = .ok (.iconst 3, 1) := by decide +kernel
theorem dX8_cellOf_15 : decode cX8_cellOf 15 = .ok (.if_icmp .le 6, 3) := by decide +kernel
theorem dX8_cellOf_18 : decode cX8_cellOf 18 = .ok (.bipush (-11), 2) := by decide +kernel
theorem dX8_cellOf_20 : decode cX8_cellOf 20 = .ok (.ireturn, 1) := by decide +kernel
theorem dX8_cellOf_21 : decode cX8_cellOf 21 = .ok (.aload_n 0, 1) := by decide +kernel
theorem dX8_cellOf_22 : decode cX8_cellOf 22 = .ok (.getfield 12, 3) := by decide +kernel
theorem dX8_cellOf_25 : decode cX8_cellOf 25 = .ok (.iload_n 1, 1) := by decide +kernel
theorem dX8_cellOf_26 : decode cX8_cellOf 26 = .ok (.invokevirtual 55, 3) := by decide +kernel
theorem dX8_cellOf_29 : decode cX8_cellOf 29 = .ok (.astore 4, 2) := by decide +kernel
theorem dX8_cellOf_31 : decode cX8_cellOf 31 = .ok (.iload_n 3, 1) := by decide +kernel
theorem dX8_cellOf_32 : decode cX8_cellOf 32 = .ok (.tableswitch 58 0 2 #[28, 38, 48], 28) := by decide +kernel
theorem dX8_cellOf_60 : decode cX8_cellOf 60 = .ok (.aload 4, 2) := by decide +kernel
theorem dX8_cellOf_62 : decode cX8_cellOf 62 = .ok (.invokevirtual 101, 3) := by decide +kernel
theorem dX8_cellOf_65 : decode cX8_cellOf 65 = .ok (.iload_n 2, 1) := by decide +kernel
theorem dX8_cellOf_66 : decode cX8_cellOf 66 = .ok (.invokevirtual 105, 3) := by decide +kernel
theorem dX8_cellOf_69 : decode cX8_cellOf 69 = .ok (.ireturn, 1) := by decide +kernel
theorem dX8_cellOf_70 : decode cX8_cellOf 70 = .ok (.aload 4, 2) := by decide +kernel
theorem dX8_cellOf_72 : decode cX8_cellOf 72 = .ok (.invokevirtual 101, 3) := by decide +kernel
theorem dX8_cellOf_75 : decode cX8_cellOf 75 = .ok (.iload_n 2, 1) := by decide +kernel
theorem dX8_cellOf_76 : decode cX8_cellOf 76 = .ok (.invokevirtual 137, 3) := by decide +kernel
theorem dX8_cellOf_79 : decode cX8_cellOf 79 = .ok (.ireturn, 1) := by decide +kernel
theorem dX8_cellOf_80 : decode cX8_cellOf 80 = .ok (.aload 4, 2) := by decide +kernel
theorem dX8_cellOf_82 : decode cX8_cellOf 82 = .ok (.invokevirtual 101, 3) := by decide +kernel
theorem dX8_cellOf_85 : decode cX8_cellOf 85 = .ok (.iload_n 2, 1) := by decide +kernel
theorem dX8_cellOf_86 : decode cX8_cellOf 86 = .ok (.invokevirtual 140, 3) := by decide +kernel
theorem dX8_cellOf_89 : decode cX8_cellOf 89 = .ok (.ireturn, 1) := by decide +kernel
theorem dX8_cellOf_90 : decode cX8_cellOf 90 = .ok (.aload 4, 2) := by decide +kernel
theorem dX8_cellOf_92 : decode cX8_cellOf 92 = .ok (.iload_n 2, 1) := by decide +kernel
theorem dX8_cellOf_93 : decode cX8_cellOf 93 = .ok (.invokevirtual 143, 3) := by decide +kernel
theorem dX8_cellOf_96 : decode cX8_cellOf 96 = .ok (.ireturn, 1) := by decide +kernel
set_option maxRecDepth 20000 in
theorem ggX8_many_X5_find : GoodIn wsX8_many wsX5_find := goodIn_r _ [6, 7, 8, 9, 10, 11, 12, 5, 13, 14, 15, 16, 17, 18, 19, 20, 21, 22, 23, 24, 25, 26, 27, 28, 29, 30, 31, 32, 33, 34, 35, 36, 37, 38, 39, 40, 41, 42, 43, 44, 45, 46, 47, 48, 49, 50, 51, 52, 53, 54, 55, 56, 57, 58, 59, 60, 61, 62, 63, 64, 65, 66, 67, 68, 69, 70, 71, 72, 73, 74, 75, 76, 77, 78, 79, 80, 81, 82, 83, 84, 85, 86, 87, 88, 89, 90, 91, 92, 93, 94, 95, 96, 97, 98, 99, 100, 101, 102, 103, 104, 105, 106, 112, 113, 114, 115, 116, 117, 118, 119, 120, 121, 122, 123, 124, 125, 126, 127, 128, 129, 130, 131] (by decide +kernel) (by decide +kernel)
set_option maxRecDepth 20000 in
theorem gX8_many_X5_find : GoodIn wsX8_many (wsV RX8 127 RX5 yX5_find wsX5_find) := goodIn_app (goodIn_of _ (by decide +kernel)) ggX8_many_X5_find
theorem dX8_many_0 : decode cX8_many 0 = .ok (.aload_n 0, 1) := by decide +kernel
theorem dX8_many_1 : decode cX8_many 1 = .ok (.getfield 28, 3) := by decide +kernel
theorem dX8_many_4 : decode cX8_many 4 = .ok (.iconst (-1), 1) := by decide +kernel
theorem dX8_many_5 : decode cX8_many 5 = .ok (.invokevirtual 127, 3) := by decide +kernel
theorem dX8_many_8 : decode cX8_many 8 = .ok (.ireturn, 1) := by decide +kernel
set_option maxRecDepth 20000 in
theorem ggX8_row_X8_isAboutRow : GoodIn wsX8_row wsX8_isAboutRow := goodIn_r _ [6, 7, 8, 5, 9] (by decide +kernel) (by decide +kernel)
set_option maxRecDepth 20000 in
theorem gX8_row_X8_isAboutRow : GoodIn wsX8_row (va_wsS RX8 146 yX8_isAboutRow wsX8_isAboutRow) := goodIn_app (goodIn_of _ (by decide +kernel)) ggX8_row_X8_isAboutRow
set_option maxRecDepth 20000 in
theorem ggX8_row_X5_find : GoodIn wsX8_row wsX5_find := goodIn_r _ [14, 15, 16, 17, 18, 19, 20, 13, 21, 22, 23, 24, 25, 26, 27, 28, 29, 30, 31, 32, 33, 34, 35, 36, 37, 38, 39, 40, 41, 42, 43, 44, 45, 46, 47, 48, 49, 50, 51, 52, 53, 54, 55, 56, 57, 58, 59, 60, 61, 62, 63, 64, 65, 66, 67, 68, 69, 70, 71, 72, 73, 74, 75, 76, 77, 78, 79, 80, 81, 82, 83, 84, 85, 86, 87, 88, 89, 90, 91, 92, 93, 94, 95, 96, 97, 98, 99, 100, 101, 102, 103, 104, 105, 106, 107, 108, 109, 110, 111, 112, 113, 114, 150, 151, 152, 153, 154, 155, 156, 157, 158, 159, 160, 161, 162, 163, 164, 165, 166, 167, 168, 169] (by decide +kernel) (by decide +kernel)
set_option maxRecDepth 20000 in
theorem gX8_row_X5_find : GoodIn wsX8_row (wsV RX8 127 RX5 yX5_find wsX5_find) := goodIn_app (goodIn_of _ (by decide +kernel)) ggX8_row_X5_find
set_option maxRecDepth 20000 in
theorem ggX8_row_X5_inOrder : GoodIn wsX8_row wsX5_inOrder := goodIn_r _ [118, 15, 17, 114, 64, 65, 27, 66, 29, 119, 120, 121, 13, 122, 123, 124, 125, 126, 16, 127, 128, 129, 33, 130, 131, 132, 43, 44, 45, 46, 35, 36, 47, 48, 49, 40, 50, 51, 52, 53, 54, 55, 56, 94, 95, 96, 97, 98, 99, 100, 101, 102, 103, 104, 105, 106, 84, 107, 108, 133, 134, 135, 136, 137, 72, 73, 74, 75, 150, 151, 152, 153, 154, 155, 156, 157, 158, 159, 160, 161, 162, 163, 164, 165, 166] (by decide +kernel) (by decide +kernel)
set_option maxRecDepth 20000 in
theorem gX8_row_X5_inOrder : GoodIn wsX8_row (wsV RX8 149 RX5 yX5_inOrder wsX5_inOrder) := goodIn_app (goodIn_of _ (by decide +kernel)) ggX8_row_X5_inOrder
set_option maxRecDepth 20000 in
theorem ggX8_row_X6_isOfBoth : GoodIn wsX8_row wsX6_isOfBoth := goodIn_r _ [55, 56, 157, 158, 159, 160, 161, 162] (by decide +kernel) (by decide +kernel)
set_option maxRecDepth 20000 in
theorem gX8_row_X6_isOfBoth : GoodIn wsX8_row (wsV RX8 152 RX6 yX6_isOfBoth wsX6_isOfBoth) := goodIn_app (goodIn_of _ (by decide +kernel)) ggX8_row_X6_isOfBoth
set_option maxRecDepth 20000 in
theorem ggX8_row_X5_tellerOf : GoodIn wsX8_row wsX5_tellerOf := goodIn_r _ [142, 23, 114, 64, 65, 27, 66, 29, 150, 151, 152, 153, 154, 155, 156] (by decide +kernel) (by decide +kernel)
set_option maxRecDepth 20000 in
theorem gX8_row_X5_tellerOf : GoodIn wsX8_row (wsV RX8 156 RX5 yX5_tellerOf wsX5_tellerOf) := goodIn_app (goodIn_of _ (by decide +kernel)) ggX8_row_X5_tellerOf
set_option maxRecDepth 20000 in
theorem ggX8_row_X6_isAsked : GoodIn wsX8_row wsX6_isAsked := goodIn_r _ [46, 35, 36, 47, 48, 49, 40, 50, 51, 52, 53, 54, 33, 55, 56, 157, 158, 159, 160, 161, 162, 163, 164, 165, 166] (by decide +kernel) (by decide +kernel)
set_option maxRecDepth 20000 in
theorem gX8_row_X6_isAsked : GoodIn wsX8_row (wsV RX8 159 RX6 yX6_isAsked wsX6_isAsked) := goodIn_app (goodIn_of _ (by decide +kernel)) ggX8_row_X6_isAsked
set_option maxRecDepth 20000 in
theorem ggX8_row_X6_entry : GoodIn wsX8_row wsX6_entry := goodIn_r _ [97, 35, 36, 98, 99, 100, 40, 101, 102, 103, 104, 105, 106, 84, 107, 48, 49, 50, 51, 108, 64, 65, 27, 66, 29, 157, 158, 159, 160, 161, 162, 163, 164, 165, 166, 156] (by decide +kernel) (by decide +kernel)
set_option maxRecDepth 20000 in
theorem gX8_row_X6_entry : GoodIn wsX8_row (wsV RX8 162 RX6 yX6_entry wsX6_entry) := goodIn_app (goodIn_of _ (by decide +kernel)) ggX8_row_X6_entry
theorem dX8_row_0 : decode cX8_row 0 = .ok (.iload_n 1, 1) := by decide +kernel
theorem dX8_row_1 : decode cX8_row 1 = .ok (.ifCond .lt 10, 3) := by decide +kernel
theorem dX8_row_4 : decode cX8_row 4 = .ok (.iload_n 2, 1) := by decide +kernel
theorem dX8_row_5 : decode cX8_row 5 = .ok (.invokestatic 146, 3) := by decide +kernel
theorem dX8_row_8 : decode cX8_row 8 = .ok (.ifCond .ne 6, 3) := by decide +kernel
theorem dX8_row_11 : decode cX8_row 11 = .ok (.bipush (-11), 2) := by decide +kernel
theorem dX8_row_13 : decode cX8_row 13 = .ok (.ireturn, 1) := by decide +kernel
theorem dX8_row_14 : decode cX8_row 14 = .ok (.iload_n 1, 1) := by decide +kernel
theorem dX8_row_15 : decode cX8_row 15 = .ok (.aload_n 0, 1) := by decide +kernel
theorem dX8_row_16 : decode cX8_row 16 = .ok (.getfield 28, 3) := by decide +kernel
theorem dX8_row_19 : decode cX8_row 19 = .ok (.iconst (-1), 1) := by decide +kernel
theorem dX8_row_20 : decode cX8_row 20 = .ok (.invokevirtual 127, 3) := by decide +kernel
theorem dX8_row_23 : decode cX8_row 23 = .ok (.if_icmp .lt 6, 3) := by decide +kernel
theorem dX8_row_26 : decode cX8_row 26 = .ok (.bipush (-14), 2) := by decide +kernel
theorem dX8_row_28 : decode cX8_row 28 = .ok (.ireturn, 1) := by decide +kernel
theorem dX8_row_29 : decode cX8_row 29 = .ok (.aload_n 0, 1) := by decide +kernel
theorem dX8_row_30 : decode cX8_row 30 = .ok (.getfield 28, 3) := by decide +kernel
theorem dX8_row_33 : decode cX8_row 33 = .ok (.iload_n 1, 1) := by decide +kernel
theorem dX8_row_34 : decode cX8_row 34 = .ok (.invokevirtual 149, 3) := by decide +kernel
theorem dX8_row_37 : decode cX8_row 37 = .ok (.istore_n 3, 1) := by decide +kernel
theorem dX8_row_38 : decode cX8_row 38 = .ok (.iload_n 2, 1) := by decide +kernel
theorem dX8_row_39 : decode cX8_row 39 = .ok (.ifCond .ne 8, 3) := by decide +kernel
theorem dX8_row_42 : decode cX8_row 42 = .ok (.iload_n 3, 1) := by decide +kernel
theorem dX8_row_43 : decode cX8_row 43 = .ok (.bipush 12, 2) := by decide +kernel
theorem dX8_row_45 : decode cX8_row 45 = .ok (.idiv, 1) := by decide +kernel
theorem dX8_row_46 : decode cX8_row 46 = .ok (.ireturn, 1) := by decide +kernel
theorem dX8_row_47 : decode cX8_row 47 = .ok (.iload_n 2, 1) := by decide +kernel
theorem dX8_row_48 : decode cX8_row 48 = .ok (.iconst 1, 1) := by decide +kernel
theorem dX8_row_49 : decode cX8_row 49 = .ok (.if_icmp .ne 23, 3) := by decide +kernel
theorem dX8_row_52 : decode cX8_row 52 = .ok (.aload_n 0, 1) := by decide +kernel
theorem dX8_row_53 : decode cX8_row 53 = .ok (.getfield 12, 3) := by decide +kernel
theorem dX8_row_56 : decode cX8_row 56 = .ok (.invokevirtual 152, 3) := by decide +kernel
theorem dX8_row_59 : decode cX8_row 59 = .ok (.ifCond .eq 10, 3) := by decide +kernel
theorem dX8_row_62 : decode cX8_row 62 = .ok (.iload_n 3, 1) := by decide +kernel
theorem dX8_row_63 : decode cX8_row 63 = .ok (.bipush 12, 2) := by decide +kernel
theorem dX8_row_65 : decode cX8_row 65 = .ok (.irem, 1) := by decide +kernel
theorem dX8_row_66 : decode cX8_row 66 = .ok (.goto 5, 3) := by decide +kernel
theorem dX8_row_69 : decode cX8_row 69 = .ok (.bipush (-14), 2) := by decide +kernel
theorem dX8_row_71 : decode cX8_row 71 = .ok (.ireturn, 1) := by decide +kernel
theorem dX8_row_72 : decode cX8_row 72 = .ok (.iload_n 2, 1) := by decide +kernel
theorem dX8_row_73 : decode cX8_row 73 = .ok (.bipush 20, 2) := by decide +kernel
theorem dX8_row_75 : decode cX8_row 75 = .ok (.if_icmp .ge 10, 3) := by decide +kernel
theorem dX8_row_78 : decode cX8_row 78 = .ok (.iload_n 2, 1) := by decide +kernel
theorem dX8_row_79 : decode cX8_row 79 = .ok (.bipush 10, 2) := by decide +kernel
theorem dX8_row_81 : decode cX8_row 81 = .ok (.isub, 1) := by decide +kernel
theorem dX8_row_82 : decode cX8_row 82 = .ok (.goto 14, 3) := by decide +kernel
theorem dX8_row_85 : decode cX8_row 85 = .ok (.aload_n 0, 1) := by decide +kernel
theorem dX8_row_86 : decode cX8_row 86 = .ok (.getfield 28, 3) := by decide +kernel
theorem dX8_row_89 : decode cX8_row 89 = .ok (.iload_n 2, 1) := by decide +kernel
theorem dX8_row_90 : decode cX8_row 90 = .ok (.bipush 20, 2) := by decide +kernel
theorem dX8_row_92 : decode cX8_row 92 = .ok (.isub, 1) := by decide +kernel
theorem dX8_row_93 : decode cX8_row 93 = .ok (.invokevirtual 156, 3) := by decide +kernel
theorem dX8_row_96 : decode cX8_row 96 = .ok (.istore 4, 2) := by decide +kernel
theorem dX8_row_98 : decode cX8_row 98 = .ok (.aload_n 0, 1) := by decide +kernel
theorem dX8_row_99 : decode cX8_row 99 = .ok (.getfield 12, 3) := by decide +kernel
theorem dX8_row_102 : decode cX8_row 102 = .ok (.iload 4, 2) := by decide +kernel
theorem dX8_row_104 : decode cX8_row 104 = .ok (.invokevirtual 159, 3) := by decide +kernel
theorem dX8_row_107 : decode cX8_row 107 = .ok (.ifCond .eq 16, 3) := by decide +kernel
theorem dX8_row_110 : decode cX8_row 110 = .ok (.aload_n 0, 1) := by decide +kernel
theorem dX8_row_111 : decode cX8_row 111 = .ok (.getfield 12, 3) := by decide +kernel
theorem dX8_row_114 : decode cX8_row 114 = .ok (.iload 4, 2) := by decide +kernel
theorem dX8_row_116 : decode cX8_row 116 = .ok (.iload_n 3, 1) := by decide +kernel
theorem dX8_row_117 : decode cX8_row 117 = .ok (.invokevirtual 162, 3) := by decide +kernel
theorem dX8_row_120 : decode cX8_row 120 = .ok (.goto 5, 3) := by decide +kernel
theorem dX8_row_123 : decode cX8_row 123 = .ok (.bipush (-14), 2) := by decide +kernel
theorem dX8_row_125 : decode cX8_row 125 = .ok (.ireturn, 1) := by decide +kernel
set_option maxRecDepth 20000 in
theorem ggX8_unlike_X5_countUnlike : GoodIn wsX8_unlike wsX5_countUnlike := goodIn_r _ [6, 7, 8, 9, 10, 11, 12, 5, 13, 14, 15, 16, 17, 18, 19, 20, 21, 22, 23, 24, 25, 26, 27, 28, 29, 30, 31, 32, 33, 34, 35, 36, 37, 38, 39, 40, 41, 42, 43, 44, 45, 46, 47, 48, 49, 50, 51, 52, 53, 54, 55, 56, 57, 58, 59, 60, 61, 62, 63, 64, 65, 66, 67, 68, 69, 70, 71, 72, 73, 74, 75, 76, 77, 78, 79, 80, 81, 82, 83, 84, 85, 86, 87, 88, 89, 90, 91, 92, 93, 94, 95, 96, 97, 98, 99, 100, 101, 102, 103, 104, 105, 106, 107, 108, 109, 110, 111, 112, 113, 114, 115, 116, 117, 118, 119, 120, 121, 122, 123, 124, 125, 126, 127, 128, 129, 130, 136, 137, 138, 139, 140, 141, 142, 143, 144, 145, 146, 147, 148, 149, 150, 151, 152, 153, 154, 155] (by decide +kernel) (by decide +kernel)
set_option maxRecDepth 20000 in
theorem gX8_unlike_X5_countUnlike : GoodIn wsX8_unlike (wsV RX8 134 RX5 yX5_countUnlike wsX5_countUnlike) := goodIn_app (goodIn_of _ (by decide +kernel)) ggX8_unlike_X5_countUnlike
theorem dX8_unlike_0 : decode cX8_unlike 0 = .ok (.aload_n 0, 1) := by decide +kernel
theorem dX8_unlike_1 : decode cX8_unlike 1 = .ok (.getfield 28, 3) := by decide +kernel
theorem dX8_unlike_4 : decode cX8_unlike 4 = .ok (.invokevirtual 134, 3) := by decide +kernel
theorem dX8_unlike_7 : decode cX8_unlike 7 = .ok (.ireturn, 1) := by decide +kernel
set_option maxRecDepth 20000 in
theorem ggX8_why_X6_isOfBoth : GoodIn wsX8_why wsX6_isOfBoth := goodIn_r _ [7, 8, 108, 109, 110, 111, 112, 113] (by decide +kernel) (by decide +kernel)
set_option maxRecDepth 20000 in
theorem gX8_why_X6_isOfBoth : GoodIn wsX8_why (wsV RX8 152 RX6 yX6_isOfBoth wsX6_isOfBoth) := goodIn_app (goodIn_of _ (by decide +kernel)) ggX8_why_X6_isOfBoth
set_option maxRecDepth 20000 in
theorem ggX8_why_X6_drawer : GoodIn wsX8_why wsX6_drawer := goodIn_r _ [12, 13, 14, 108, 109, 110, 111, 112, 113] (by decide +kernel) (by decide +kernel)
set_option maxRecDepth 20000 in
theorem gX8_why_X6_drawer : GoodIn wsX8_why (wsV RX8 55 RX6 yX6_drawer wsX6_drawer) := goodIn_app (goodIn_of _ (by decide +kernel)) ggX8_why_X6_drawer
set_option maxRecDepth 20000 in
theorem ggX8_why_X0_hasCard : GoodIn wsX8_why wsX0_hasCard := goodIn_r _ [19, 20, 114, 115, 116, 117] (by decide +kernel) (by decide +kernel)
set_option maxRecDepth 20000 in
theorem gX8_why_X0_hasCard : GoodIn wsX8_why (wsV RX8 84 RX0 yX0_hasCard wsX0_hasCard) := goodIn_app (goodIn_of _ (by decide +kernel)) ggX8_why_X0_hasCard
set_option maxRecDepth 20000 in
theorem ggX8_why_X5_explain : GoodIn wsX8_why wsX5_explain := goodIn_r _ [25, 26, 27, 28, 24, 29, 30, 31, 32, 33, 34, 35, 36, 37, 38, 39, 40, 41, 6, 42, 13, 14, 43, 44, 45, 18, 46, 47, 48, 49, 50, 51, 52, 53, 54, 55, 56, 57, 4, 5, 7, 8, 58, 59, 60, 61, 62, 63, 64, 65, 66, 67, 68, 69, 70, 71, 72, 73, 74, 75, 76, 77, 78, 79, 80, 81, 82, 83, 84, 85, 86, 87, 88, 89, 90, 91, 92, 93, 94, 16, 17, 19, 20, 95, 96, 97, 98, 99, 100, 101, 102, 118, 119, 120, 121, 122, 123, 124, 108, 109, 110, 111, 112, 113, 114, 115, 116, 117, 125, 126, 127] (by decide +kernel) (by decide +kernel)
set_option maxRecDepth 20000 in
theorem gX8_why_X5_explain : GoodIn wsX8_why (wsV RX8 169 RX5 yX5_explain wsX5_explain) := goodIn_app (goodIn_of _ (by decide +kernel)) ggX8_why_X5_explain
theorem dX8_why_0 : decode cX8_why 0 = .ok (.aload_n 0, 1) := by decide +kernel
theorem dX8_why_1 : decode cX8_why 1 = .ok (.getfield 12, 3) := by decide +kernel
theorem dX8_why_4 : decode cX8_why 4 = .ok (.invokevirtual 152, 3) := by decide +kernel
theorem dX8_why_7 : decode cX8_why 7 = .ok (.ifCond .eq 18, 3) := by decide +kernel
theorem dX8_why_10 : decode cX8_why 10 = .ok (.aload_n 0, 1) := by decide +kernel
theorem dX8_why_11 : decode cX8_why 11 = .ok (.getfield 12, 3) := by decide +kernel
theorem dX8_why_14 : decode cX8_why 14 = .ok (.iconst 1, 1) := by decide +kernel
theorem dX8_why_15 : decode cX8_why 15 = .ok (.invokevirtual 55, 3) := by decide +kernel
theorem dX8_why_18 : decode cX8_why 18 = .ok (.iload_n 2, 1) := by decide +kernel
theorem dX8_why_19 : decode cX8_why 19 = .ok (.invokevirtual 84, 3) := by decide +kernel
theorem dX8_why_22 : decode cX8_why 22 = .ok (.goto 12, 3) := by decide +kernel
theorem dX8_why_25 : decode cX8_why 25 = .ok (.iload_n 2, 1) := by decide +kernel
theorem dX8_why_26 : decode cX8_why 26 = .ok (.ifCond .ne 7, 3) := by decide +kernel
theorem dX8_why_29 : decode cX8_why 29 = .ok (.iconst 1, 1) := by decide +kernel
theorem dX8_why_30 : decode cX8_why 30 = .ok (.goto 4, 3) := by decide +kernel
theorem dX8_why_33 : decode cX8_why 33 = .ok (.iconst 0, 1) := by decide +kernel
theorem dX8_why_34 : decode cX8_why 34 = .ok (.istore_n 3, 1) := by decide +kernel
theorem dX8_why_35 : decode cX8_why 35 = .ok (.aload_n 0, 1) := by decide +kernel
theorem dX8_why_36 : decode cX8_why 36 = .ok (.getfield 12, 3) := by decide +kernel
theorem dX8_why_39 : decode cX8_why 39 = .ok (.iconst 0, 1) := by decide +kernel
theorem dX8_why_40 : decode cX8_why 40 = .ok (.invokevirtual 55, 3) := by decide +kernel
theorem dX8_why_43 : decode cX8_why 43 = .ok (.iload_n 1, 1) := by decide +kernel
theorem dX8_why_44 : decode cX8_why 44 = .ok (.invokevirtual 84, 3) := by decide +kernel
theorem dX8_why_47 : decode cX8_why 47 = .ok (.ifCond .eq 7, 3) := by decide +kernel
theorem dX8_why_50 : decode cX8_why 50 = .ok (.iload_n 3, 1) := by decide +kernel
theorem dX8_why_51 : decode cX8_why 51 = .ok (.ifCond .ne 6, 3) := by decide +kernel
theorem dX8_why_54 : decode cX8_why 54 = .ok (.bipush (-11), 2) := by decide +kernel
theorem dX8_why_56 : decode cX8_why 56 = .ok (.ireturn, 1) := by decide +kernel
theorem dX8_why_57 : decode cX8_why 57 = .ok (.aload_n 0, 1) := by decide +kernel
theorem dX8_why_58 : decode cX8_why 58 = .ok (.getfield 28, 3) := by decide +kernel
theorem dX8_why_61 : decode cX8_why 61 = .ok (.iload_n 1, 1) := by decide +kernel
theorem dX8_why_62 : decode cX8_why 62 = .ok (.bipush 12, 2) := by decide +kernel
theorem dX8_why_64 : decode cX8_why 64 = .ok (.imul, 1) := by decide +kernel
theorem dX8_why_65 : decode cX8_why 65 = .ok (.iload_n 2, 1) := by decide +kernel
theorem dX8_why_66 : decode cX8_why 66 = .ok (.iadd, 1) := by decide +kernel
theorem dX8_why_67 : decode cX8_why 67 = .ok (.invokevirtual 169, 3) := by decide +kernel
theorem dX8_why_70 : decode cX8_why 70 = .ok (.istore 4, 2) := by decide +kernel
theorem dX8_why_72 : decode cX8_why 72 = .ok (.iload 4, 2) := by decide +kernel
theorem dX8_why_74 : decode cX8_why 74 = .ok (.iconst (-1), 1) := by decide +kernel
theorem dX8_why_75 : decode cX8_why 75 = .ok (.if_icmp .ne 8, 3) := by decide +kernel
theorem dX8_why_78 : decode cX8_why 78 = .ok (.bipush (-14), 2) := by decide +kernel
theorem dX8_why_80 : decode cX8_why 80 = .ok (.goto 5, 3) := by decide +kernel
theorem dX8_why_83 : decode cX8_why 83 = .ok (.iload 4, 2) := by decide +kernel
theorem dX8_why_85 : decode cX8_why 85 = .ok (.ireturn, 1) := by decide +kernel
set_option maxRecDepth 20000 in
theorem ggX8_count_X6_drawer : GoodIn wsX8_count wsX6_drawer := goodIn_r _ [8, 9, 10, 77, 78, 79, 80, 81, 82] (by decide +kernel) (by decide +kernel)
set_option maxRecDepth 20000 in
theorem gX8_count_X6_drawer : GoodIn wsX8_count (wsV RX8 55 RX6 yX6_drawer wsX6_drawer) := goodIn_app (goodIn_of _ (by decide +kernel)) ggX8_count_X6_drawer
set_option maxRecDepth 20000 in
theorem ggX8_count_X0_size : GoodIn wsX8_count wsX0_size := goodIn_r _ [15, 16, 83, 84, 85, 86] (by decide +kernel) (by decide +kernel)
set_option maxRecDepth 20000 in
theorem gX8_count_X0_size : GoodIn wsX8_count (wsV RX8 68 RX0 yX0_size wsX0_size) := goodIn_app (goodIn_of _ (by decide +kernel)) ggX8_count_X0_size
set_option maxRecDepth 20000 in
theorem ggX8_count_X0_width : GoodIn wsX8_count wsX0_width := goodIn_r _ [20, 21, 83, 84, 85, 86] (by decide +kernel) (by decide +kernel)
set_option maxRecDepth 20000 in
theorem gX8_count_X0_width : GoodIn wsX8_count (wsV RX8 172 RX0 yX0_width wsX0_width) := goodIn_app (goodIn_of _ (by decide +kernel)) ggX8_count_X0_width
set_option maxRecDepth 20000 in
theorem ggX8_count_X6_isOfBoth : GoodIn wsX8_count wsX6_isOfBoth := goodIn_r _ [25, 26, 77, 78, 79, 80, 81, 82] (by decide +kernel) (by decide +kernel)
set_option maxRecDepth 20000 in
theorem gX8_count_X6_isOfBoth : GoodIn wsX8_count (wsV RX8 152 RX6 yX6_isOfBoth wsX6_isOfBoth) := goodIn_app (goodIn_of _ (by decide +kernel)) ggX8_count_X6_isOfBoth
set_option maxRecDepth 20000 in
theorem ggX8_count_X0_example : GoodIn wsX8_count wsX0_example := goodIn_r _ [30, 31, 83, 84, 85, 86] (by decide +kernel) (by decide +kernel)
set_option maxRecDepth 20000 in
theorem gX8_count_X0_example : GoodIn wsX8_count (wsV RX8 101 RX0 yX0_example wsX0_example) := goodIn_app (goodIn_of _ (by decide +kernel)) ggX8_count_X0_example
set_option maxRecDepth 20000 in
theorem ggX8_count_X1_otherKinds : GoodIn wsX8_count wsX1_otherKinds := goodIn_r _ [36, 37, 38, 39, 40, 41, 42, 43, 87, 88, 89, 90] (by decide +kernel) (by decide +kernel)
set_option maxRecDepth 20000 in
theorem gX8_count_X1_otherKinds : GoodIn wsX8_count (wsV RX8 114 RX1 yX1_otherKinds wsX1_otherKinds) := goodIn_app (goodIn_of _ (by decide +kernel)) ggX8_count_X1_otherKinds
set_option maxRecDepth 20000 in
theorem ggX8_count_X6_shownSet : GoodIn wsX8_count wsX6_shownSet := goodIn_r _ [47, 48, 77, 78, 79, 80, 81, 82] (by decide +kernel) (by decide +kernel)
set_option maxRecDepth 20000 in
theorem gX8_count_X6_shownSet : GoodIn wsX8_count (wsV RX8 175 RX6 yX6_shownSet wsX6_shownSet) := goodIn_app (goodIn_of _ (by decide +kernel)) ggX8_count_X6_shownSet
set_option maxRecDepth 20000 in
theorem ggX8_count_X2_size : GoodIn wsX8_count wsX2_size := goodIn_r _ [53, 54, 91, 92, 93, 94, 95] (by decide +kernel) (by decide +kernel)
set_option maxRecDepth 20000 in
theorem gX8_count_X2_size : GoodIn wsX8_count (wsV RX8 178 RX2 yX2_size wsX2_size) := goodIn_app (goodIn_of _ (by decide +kernel)) ggX8_count_X2_size
set_option maxRecDepth 20000 in
theorem ggX8_count_X7_length : GoodIn wsX8_count wsX7_length := goodIn_r _ [59, 60, 96, 97] (by decide +kernel) (by decide +kernel)
set_option maxRecDepth 20000 in
theorem gX8_count_X7_length : GoodIn wsX8_count (wsV RX8 179 RX7 yX7_length wsX7_length) := goodIn_app (goodIn_of _ (by decide +kernel)) ggX8_count_X7_length
set_option maxRecDepth 20000 in
theorem ggX8_count_X6_orderColumn : GoodIn wsX8_count wsX6_orderColumn := goodIn_r _ [64, 65, 66, 39, 40, 41, 42, 43, 77, 78, 79, 80, 81, 82, 90] (by decide +kernel) (by decide +kernel)
set_option maxRecDepth 20000 in
theorem gX8_count_X6_orderColumn : GoodIn wsX8_count (wsV RX8 182 RX6 yX6_orderColumn wsX6_orderColumn) := goodIn_app (goodIn_of _ (by decide +kernel)) ggX8_count_X6_orderColumn
set_option maxRecDepth 20000 in
theorem ggX8_count_X6_isDownwards : GoodIn wsX8_count wsX6_isDownwards := goodIn_r _ [70, 71, 66, 39, 40, 41, 42, 43, 77, 78, 79, 80, 81, 82, 90] (by decide +kernel) (by decide +kernel)
set_option maxRecDepth 20000 in
theorem gX8_count_X6_isDownwards : GoodIn wsX8_count (wsV RX8 185 RX6 yX6_isDownwards wsX6_isDownwards) := goodIn_app (goodIn_of _ (by decide +kernel)) ggX8_count_X6_isDownwards
theorem dX8_count_0 : decode cX8_count 0 = .ok (.iload_n 1, 1) := by decide +kernel
theorem dX8_count_1 : decode cX8_count 1 = .ok (.tableswitch 199 0 13 #[71, 71, 83, 83, 97, 113, 143, 151, 159, 199, 167, 167, 179, 179], 71) := by decide +kernel
theorem dX8_count_72 : decode cX8_count 72 = .ok (.aload_n 0, 1) := by decide +kernel
theorem dX8_count_73 : decode cX8_count 73 = .ok (.getfield 12, 3) := by decide +kernel
theorem dX8_count_76 : decode cX8_count 76 = .ok (.iload_n 1, 1) := by decide +kernel
theorem dX8_count_77 : decode cX8_count 77 = .ok (.invokevirtual 55, 3) := by decide +kernel
theorem dX8_count_80 : decode cX8_count 80 = .ok (.invokevirtual 68, 3) := by decide +kernel
theorem dX8_count_83 : decode cX8_count 83 = .ok (.ireturn, 1) := by decide +kernel
theorem dX8_count_84 : decode cX8_count 84 = .ok (.aload_n 0, 1) := by decide +kernel
theorem dX8_count_85 : decode cX8_count 85 = .ok (.getfield 12, 3) := by decide +kernel
theorem dX8_count_88 : decode cX8_count 88 = .ok (.iload_n 1, 1) := by decide +kernel
theorem dX8_count_89 : decode cX8_count 89 = .ok (.iconst 2, 1) := by decide +kernel
theorem dX8_count_90 : decode cX8_count 90 = .ok (.isub, 1) := by decide +kernel
theorem dX8_count_91 : decode cX8_count 91 = .ok (.invokevirtual 55, 3) := by decide +kernel
theorem dX8_count_94 : decode cX8_count 94 = .ok (.invokevirtual 172, 3) := by decide +kernel
theorem dX8_count_97 : decode cX8_count 97 = .ok (.ireturn, 1) := by decide +kernel
theorem dX8_count_98 : decode cX8_count 98 = .ok (.aload_n 0, 1) := by decide +kernel
theorem dX8_count_99 : decode cX8_count 99 = .ok (.getfield 12, 3) := by decide +kernel
theorem dX8_count_102 : decode cX8_count 102 = .ok (.invokevirtual 152, 3) := by decide +kernel
theorem dX8_count_105 : decode cX8_count 105 = .ok (.ifCond .eq 7, 3) := by decide +kernel
theorem dX8_count_108 : decode cX8_count 108 = .ok (.iconst 1, 1) := by decide +kernel
theorem dX8_count_109 : decode cX8_count 109 = .ok (.goto 4, 3) := by decide +kernel
theorem dX8_count_112 : decode cX8_count 112 = .ok (.iconst 0, 1) := by decide +kernel
theorem dX8_count_113 : decode cX8_count 113 = .ok (.ireturn, 1) := by decide +kernel
theorem dX8_count_114 : decode cX8_count 114 = .ok (.aload_n 0, 1) := by decide +kernel
theorem dX8_count_115 : decode cX8_count 115 = .ok (.getfield 12, 3) := by decide +kernel
theorem dX8_count_118 : decode cX8_count 118 = .ok (.iconst 0, 1) := by decide +kernel
theorem dX8_count_119 : decode cX8_count 119 = .ok (.invokevirtual 55, 3) := by decide +kernel
theorem dX8_count_122 : decode cX8_count 122 = .ok (.invokevirtual 101, 3) := by decide +kernel
theorem dX8_count_125 : decode cX8_count 125 = .ok (.invokevirtual 114, 3) := by decide +kernel
theorem dX8_count_128 : decode cX8_count 128 = .ok (.aload_n 0, 1) := by decide +kernel
theorem dX8_count_129 : decode cX8_count 129 = .ok (.getfield 12, 3) := by decide +kernel
theorem dX8_count_132 : decode cX8_count 132 = .ok (.iconst 1, 1) := by decide +kernel
theorem dX8_count_133 : decode cX8_count 133 = .ok (.invokevirtual 55, 3) := by decide +kernel
theorem dX8_count_136 : decode cX8_count 136 = .ok (.invokevirtual 101, 3) := by decide +kernel
theorem dX8_count_139 : decode cX8_count 139 = .ok (.invokevirtual 114, 3) := by decide +kernel
theorem dX8_count_142 : decode cX8_count 142 = .ok (.iadd, 1) := by decide +kernel
theorem dX8_count_143 : decode cX8_count 143 = .ok (.ireturn, 1) := by decide +kernel
theorem dX8_count_144 : decode cX8_count 144 = .ok (.aload_n 0, 1) := by decide +kernel
theorem dX8_count_145 : decode cX8_count 145 = .ok (.getfield 12, 3) := by decide +kernel
theorem dX8_count_148 : decode cX8_count 148 = .ok (.invokevirtual 175, 3) := by decide +kernel
theorem dX8_count_151 : decode cX8_count 151 = .ok (.ireturn, 1) := by decide +kernel
theorem dX8_count_152 : decode cX8_count 152 = .ok (.aload_n 0, 1) := by decide +kernel
theorem dX8_count_153 : decode cX8_count 153 = .ok (.getfield 19, 3) := by decide +kernel
theorem dX8_count_156 : decode cX8_count 156 = .ok (.invokevirtual 178, 3) := by decide +kernel
theorem dX8_count_159 : decode cX8_count 159 = .ok (.ireturn, 1) := by decide +kernel
theorem dX8_count_160 : decode cX8_count 160 = .ok (.aload_n 0, 1) := by decide +kernel
theorem dX8_count_161 : decode cX8_count 161 = .ok (.getfield 35, 3) := by decide +kernel
theorem dX8_count_164 : decode cX8_count 164 = .ok (.invokevirtual 179, 3) := by decide +kernel
theorem dX8_count_167 : decode cX8_count 167 = .ok (.ireturn, 1) := by decide +kernel
theorem dX8_count_168 : decode cX8_count 168 = .ok (.aload_n 0, 1) := by decide +kernel
theorem dX8_count_169 : decode cX8_count 169 = .ok (.getfield 12, 3) := by decide +kernel
theorem dX8_count_172 : decode cX8_count 172 = .ok (.iload_n 1, 1) := by decide +kernel
theorem dX8_count_173 : decode cX8_count 173 = .ok (.bipush 10, 2) := by decide +kernel
theorem dX8_count_175 : decode cX8_count 175 = .ok (.isub, 1) := by decide +kernel
theorem dX8_count_176 : decode cX8_count 176 = .ok (.invokevirtual 182, 3) := by decide +kernel
theorem dX8_count_179 : decode cX8_count 179 = .ok (.ireturn, 1) := by decide +kernel
theorem dX8_count_180 : decode cX8_count 180 = .ok (.aload_n 0, 1) := by decide +kernel
theorem dX8_count_181 : decode cX8_count 181 = .ok (.getfield 12, 3) := by decide +kernel
theorem dX8_count_184 : decode cX8_count 184 = .ok (.iload_n 1, 1) := by decide +kernel
theorem dX8_count_185 : decode cX8_count 185 = .ok (.bipush 12, 2) := by decide +kernel
theorem dX8_count_187 : decode cX8_count 187 = .ok (.isub, 1) := by decide +kernel
theorem dX8_count_188 : decode cX8_count 188 = .ok (.invokevirtual 185, 3) := by decide +kernel
theorem dX8_count_191 : decode cX8_count 191 = .ok (.ifCond .eq 7, 3) := by decide +kernel
theorem dX8_count_194 : decode cX8_count 194 = .ok (.iconst 1, 1) := by decide +kernel
theorem dX8_count_195 : decode cX8_count 195 = .ok (.goto 4, 3) := by decide +kernel
theorem dX8_count_198 : decode cX8_count 198 = .ok (.iconst 0, 1) := by decide +kernel
theorem dX8_count_199 : decode cX8_count 199 = .ok (.ireturn, 1) := by decide +kernel
theorem dX8_count_200 : decode cX8_count 200 = .ok (.bipush (-11), 2) := by decide +kernel
theorem dX8_count_202 : decode cX8_count 202 = .ok (.ireturn, 1) := by decide +kernel
set_option maxRecDepth 20000 in
theorem ggX8_type_X7_length : GoodIn wsX8_type wsX7_length := goodIn_r _ [6, 7, 24, 25] (by decide +kernel) (by decide +kernel)
set_option maxRecDepth 20000 in
theorem gX8_type_X7_length : GoodIn wsX8_type (wsV RX8 179 RX7 yX7_length wsX7_length) := goodIn_app (goodIn_of _ (by decide +kernel)) ggX8_type_X7_length
set_option maxRecDepth 20000 in
theorem ggX8_type_X7_append : GoodIn wsX8_type wsX7_append := goodIn_r _ [11, 12, 7, 13, 14, 15, 16, 17, 18, 24, 25, 26] (by decide +kernel) (by decide +kernel)
set_option maxRecDepth 20000 in
theorem gX8_type_X7_append : GoodIn wsX8_type (wsV RX8 191 RX7 yX7_append wsX7_append) := goodIn_app (goodIn_of _ (by decide +kernel)) ggX8_type_X7_append
theorem dX8_type_0 : decode cX8_type 0 = .ok (.iload_n 1, 1) := by decide +kernel
theorem dX8_type_1 : decode cX8_type 1 = .ok (.bipush 32, 2) := by decide +kernel
theorem dX8_type_3 : decode cX8_type 3 = .ok (.if_icmp .lt 9, 3) := by decide +kernel
theorem dX8_type_6 : decode cX8_type 6 = .ok (.iload_n 1, 1) := by decide +kernel
theorem dX8_type_7 : decode cX8_type 7 = .ok (.bipush 126, 2) := by decide +kernel
theorem dX8_type_9 : decode cX8_type 9 = .ok (.if_icmp .le 6, 3) := by decide +kernel
theorem dX8_type_12 : decode cX8_type 12 = .ok (.bipush (-11), 2) := by decide +kernel
theorem dX8_type_14 : decode cX8_type 14 = .ok (.ireturn, 1) := by decide +kernel
theorem dX8_type_15 : decode cX8_type 15 = .ok (.aload_n 0, 1) := by decide +kernel
theorem dX8_type_16 : decode cX8_type 16 = .ok (.getfield 35, 3) := by decide +kernel
theorem dX8_type_19 : decode cX8_type 19 = .ok (.invokevirtual 179, 3) := by decide +kernel
theorem dX8_type_22 : decode cX8_type 22 = .ok (.bipush 60, 2) := by decide +kernel
theorem dX8_type_24 : decode cX8_type 24 = .ok (.if_icmp .lt 6, 3) := by decide +kernel
theorem dX8_type_27 : decode cX8_type 27 = .ok (.bipush (-13), 2) := by decide +kernel
theorem dX8_type_29 : decode cX8_type 29 = .ok (.ireturn, 1) := by decide +kernel
theorem dX8_type_30 : decode cX8_type 30 = .ok (.aload_n 0, 1) := by decide +kernel
theorem dX8_type_31 : decode cX8_type 31 = .ok (.getfield 35, 3) := by decide +kernel
theorem dX8_type_34 : decode cX8_type 34 = .ok (.iload_n 1, 1) := by decide +kernel
theorem dX8_type_35 : decode cX8_type 35 = .ok (.invokevirtual 191, 3) := by decide +kernel
theorem dX8_type_38 : decode cX8_type 38 = .ok (.ireturn, 1) := by decide +kernel
set_option maxRecDepth 20000 in
theorem ggX8_clearText_X7_empty : GoodIn wsX8_clearText wsX7_empty := goodIn_r _ [6, 7, 13, 14] (by decide +kernel) (by decide +kernel)
set_option maxRecDepth 20000 in
theorem gX8_clearText_X7_empty : GoodIn wsX8_clearText (wsV RX8 194 RX7 yX7_empty wsX7_empty) := goodIn_app (goodIn_of _ (by decide +kernel)) ggX8_clearText_X7_empty
theorem dX8_clearText_0 : decode cX8_clearText 0 = .ok (.aload_n 0, 1) := by decide +kernel
theorem dX8_clearText_1 : decode cX8_clearText 1 = .ok (.getfield 35, 3) := by decide +kernel
theorem dX8_clearText_4 : decode cX8_clearText 4 = .ok (.invokevirtual 194, 3) := by decide +kernel
theorem dX8_clearText_7 : decode cX8_clearText 7 = .ok (.ireturn, 1) := by decide +kernel
set_option maxRecDepth 20000 in
theorem ggX8_fault_X8_isBit : GoodIn wsX8_fault wsX8_isBit := goodIn_r _ [5] (by decide +kernel) (by decide +kernel)
set_option maxRecDepth 20000 in
theorem gX8_fault_X8_isBit : GoodIn wsX8_fault (va_wsS RX8 48 yX8_isBit wsX8_isBit) := goodIn_app (goodIn_of _ (by decide +kernel)) ggX8_fault_X8_isBit
set_option maxRecDepth 20000 in
theorem ggX8_fault_X4_start : GoodIn wsX8_fault wsX4_start := goodIn_r _ [10, 11, 12, 13, 14, 15, 16, 17, 18, 19, 20, 21, 22, 23, 24, 25, 26, 27, 28, 29, 30, 31, 32, 33, 34, 35, 36, 37, 38, 39, 40, 41, 42, 43, 44, 9, 45, 46, 47, 48, 49, 50, 51, 52, 53, 54, 55, 56, 57, 58, 59, 60, 61, 62, 63, 64, 65, 66, 67, 68, 69, 70, 71, 72, 73, 74, 75, 76, 77, 78, 79, 80, 81, 82, 83, 84, 85, 86, 87, 102, 103, 104, 105, 106, 107, 108, 109, 110, 111, 112, 113] (by decide +kernel) (by decide +kernel)
set_option maxRecDepth 20000 in
theorem gX8_fault_X4_start : GoodIn wsX8_fault (wsV RX8 197 RX4 yX4_start wsX4_start) := goodIn_app (goodIn_of _ (by decide +kernel)) ggX8_fault_X4_start
set_option maxRecDepth 20000 in
theorem ggX8_fault_X4_hasFault : GoodIn wsX8_fault wsX4_hasFault := goodIn_r _ [72, 15, 102, 103, 104, 105, 106, 107] (by decide +kernel) (by decide +kernel)
set_option maxRecDepth 20000 in
theorem gX8_fault_X4_hasFault : GoodIn wsX8_fault (wsV RX8 200 RX4 yX4_hasFault wsX4_hasFault) := goodIn_app (goodIn_of _ (by decide +kernel)) ggX8_fault_X4_hasFault
set_option maxRecDepth 20000 in
theorem ggX8_fault_X4_faultPlace : GoodIn wsX8_fault wsX4_faultPlace := goodIn_r _ [92, 14, 102, 103, 104, 105, 106, 107] (by decide +kernel) (by decide +kernel)
set_option maxRecDepth 20000 in
theorem gX8_fault_X4_faultPlace : GoodIn wsX8_fault (wsV RX8 203 RX4 yX4_faultPlace wsX4_faultPlace) := goodIn_app (goodIn_of _ (by decide +kernel)) ggX8_fault_X4_faultPlace
set_option maxRecDepth 20000 in
theorem ggX8_fault_X4_faultReason : GoodIn wsX8_fault wsX4_faultReason := goodIn_r _ [96, 15, 102, 103, 104, 105, 106, 107] (by decide +kernel) (by decide +kernel)
set_option maxRecDepth 20000 in
theorem gX8_fault_X4_faultReason : GoodIn wsX8_fault (wsV RX8 206 RX4 yX4_faultReason wsX4_faultReason) := goodIn_app (goodIn_of _ (by decide +kernel)) ggX8_fault_X4_faultReason
theorem dX8_fault_0 : decode cX8_fault 0 = .ok (.iload_n 1, 1) := by decide +kernel
theorem dX8_fault_1 : decode cX8_fault 1 = .ok (.invokestatic 48, 3) := by decide +kernel
theorem dX8_fault_4 : decode cX8_fault 4 = .ok (.ifCond .ne 6, 3) := by decide +kernel
theorem dX8_fault_7 : decode cX8_fault 7 = .ok (.bipush (-11), 2) := by decide +kernel
theorem dX8_fault_9 : decode cX8_fault 9 = .ok (.ireturn, 1) := by decide +kernel
theorem dX8_fault_10 : decode cX8_fault 10 = .ok (.aload_n 0, 1) := by decide +kernel
theorem dX8_fault_11 : decode cX8_fault 11 = .ok (.getfield 44, 3) := by decide +kernel
theorem dX8_fault_14 : decode cX8_fault 14 = .ok (.invokevirtual 197, 3) := by decide +kernel
theorem dX8_fault_17 : decode cX8_fault 17 = .ok (.aload_n 0, 1) := by decide +kernel
theorem dX8_fault_18 : decode cX8_fault 18 = .ok (.getfield 44, 3) := by decide +kernel
theorem dX8_fault_21 : decode cX8_fault 21 = .ok (.invokevirtual 200, 3) := by decide +kernel
theorem dX8_fault_24 : decode cX8_fault 24 = .ok (.ifCond .ne 6, 3) := by decide +kernel
theorem dX8_fault_27 : decode cX8_fault 27 = .ok (.bipush (-14), 2) := by decide +kernel
theorem dX8_fault_29 : decode cX8_fault 29 = .ok (.ireturn, 1) := by decide +kernel
theorem dX8_fault_30 : decode cX8_fault 30 = .ok (.iload_n 1, 1) := by decide +kernel
theorem dX8_fault_31 : decode cX8_fault 31 = .ok (.ifCond .ne 13, 3) := by decide +kernel
theorem dX8_fault_34 : decode cX8_fault 34 = .ok (.aload_n 0, 1) := by decide +kernel
theorem dX8_fault_35 : decode cX8_fault 35 = .ok (.getfield 44, 3) := by decide +kernel
theorem dX8_fault_38 : decode cX8_fault 38 = .ok (.invokevirtual 203, 3) := by decide +kernel
theorem dX8_fault_41 : decode cX8_fault 41 = .ok (.goto 10, 3) := by decide +kernel
theorem dX8_fault_44 : decode cX8_fault 44 = .ok (.aload_n 0, 1) := by decide +kernel
theorem dX8_fault_45 : decode cX8_fault 45 = .ok (.getfield 44, 3) := by decide +kernel
theorem dX8_fault_48 : decode cX8_fault 48 = .ok (.invokevirtual 206, 3) := by decide +kernel
theorem dX8_fault_51 : decode cX8_fault 51 = .ok (.ireturn, 1) := by decide +kernel
set_option maxRecDepth 20000 in
theorem ggX8_read_X8_isBit : GoodIn wsX8_read wsX8_isBit := goodIn_r _ [8] (by decide +kernel) (by decide +kernel)
set_option maxRecDepth 20000 in
theorem gX8_read_X8_isBit : GoodIn wsX8_read (va_wsS RX8 48 yX8_isBit wsX8_isBit) := goodIn_app (goodIn_of _ (by decide +kernel)) ggX8_read_X8_isBit
set_option maxRecDepth 20000 in
theorem ggX8_read_X4_start : GoodIn wsX8_read wsX4_start := goodIn_r _ [13, 14, 15, 16, 17, 18, 19, 20, 21, 22, 23, 24, 25, 26, 27, 28, 29, 30, 31, 32, 33, 34, 35, 36, 37, 38, 39, 40, 41, 42, 43, 44, 45, 46, 47, 12, 48, 49, 50, 51, 52, 53, 54, 55, 56, 57, 58, 59, 60, 61, 62, 63, 64, 65, 66, 67, 68, 69, 70, 71, 72, 73, 74, 75, 76, 77, 78, 79, 80, 81, 82, 83, 84, 85, 86, 87, 88, 89, 90, 238, 239, 240, 241, 242, 243, 244, 245, 246, 247, 248, 249] (by decide +kernel) (by decide +kernel)
set_option maxRecDepth 20000 in
theorem gX8_read_X4_start : GoodIn wsX8_read (wsV RX8 197 RX4 yX4_start wsX4_start) := goodIn_app (goodIn_of _ (by decide +kernel)) ggX8_read_X4_start
set_option maxRecDepth 20000 in
theorem ggX8_read_X4_hasFault : GoodIn wsX8_read wsX4_hasFault := goodIn_r _ [75, 18, 238, 239, 240, 241, 242, 243] (by decide +kernel) (by decide +kernel)
set_option maxRecDepth 20000 in
theorem gX8_read_X4_hasFault : GoodIn wsX8_read (wsV RX8 200 RX4 yX4_hasFault wsX4_hasFault) := goodIn_app (goodIn_of _ (by decide +kernel)) ggX8_read_X4_hasFault
