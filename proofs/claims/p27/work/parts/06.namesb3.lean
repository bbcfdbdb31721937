set_option maxRecDepth 20000 in
theorem ggX8_read_X4_cells : GoodIn wsX8_read wsX4_cells := goodIn_r _ [95, 15, 238, 239, 240, 241, 242, 243] (by decide +kernel) (by decide +kernel)
set_option maxRecDepth 20000 in
theorem gX8_read_X4_cells : GoodIn wsX8_read (wsV RX8 209 RX4 yX4_cells wsX4_cells) := goodIn_app (goodIn_of _ (by decide +kernel)) ggX8_read_X4_cells
set_option maxRecDepth 20000 in
theorem ggX8_read_X6_drawer : GoodIn wsX8_read wsX6_drawer := goodIn_r _ [100, 101, 102, 250, 251, 252, 253, 254, 255] (by decide +kernel) (by decide +kernel)
set_option maxRecDepth 20000 in
theorem gX8_read_X6_drawer : GoodIn wsX8_read (wsV RX8 55 RX6 yX6_drawer wsX6_drawer) := goodIn_app (goodIn_of _ (by decide +kernel)) ggX8_read_X6_drawer
set_option maxRecDepth 20000 in
theorem ggX8_read_X0_width : GoodIn wsX8_read wsX0_width := goodIn_r _ [107, 108, 256, 257, 258, 259] (by decide +kernel) (by decide +kernel)
set_option maxRecDepth 20000 in
theorem gX8_read_X0_width : GoodIn wsX8_read (wsV RX8 172 RX0 yX0_width wsX0_width) := goodIn_app (goodIn_of _ (by decide +kernel)) ggX8_read_X0_width
set_option maxRecDepth 20000 in
theorem ggX8_read_X2_keep : GoodIn wsX8_read wsX2_keep := goodIn_r _ [113, 114, 115, 116, 117, 118, 119, 120, 121, 122, 123, 124, 125, 99, 126, 101, 102, 127, 128, 129, 130, 131, 132, 133, 106, 134, 135, 136, 108, 137, 138, 139, 140, 31, 141, 33, 142, 42, 43, 44, 143, 144, 145, 23, 146, 25, 26, 27, 147, 148, 260, 261, 262, 263, 264, 250, 251, 252, 253, 254, 255, 256, 257, 258, 259, 247, 244, 245, 246] (by decide +kernel) (by decide +kernel)
set_option maxRecDepth 20000 in
theorem gX8_read_X2_keep : GoodIn wsX8_read (wsV RX8 52 RX2 yX2_keep wsX2_keep) := goodIn_app (goodIn_of _ (by decide +kernel)) ggX8_read_X2_keep
set_option maxRecDepth 20000 in
theorem ggX8_read_X0_example : GoodIn wsX8_read wsX0_example := goodIn_r _ [152, 136, 256, 257, 258, 259] (by decide +kernel) (by decide +kernel)
set_option maxRecDepth 20000 in
theorem gX8_read_X0_example : GoodIn wsX8_read (wsV RX8 101 RX0 yX0_example wsX0_example) := goodIn_app (goodIn_of _ (by decide +kernel)) ggX8_read_X0_example
set_option maxRecDepth 20000 in
theorem ggX8_read_X4_example : GoodIn wsX8_read wsX4_example := goodIn_r _ [156, 14, 238, 239, 240, 241, 242, 243] (by decide +kernel) (by decide +kernel)
set_option maxRecDepth 20000 in
theorem gX8_read_X4_example : GoodIn wsX8_read (wsV RX8 212 RX4 yX4_example wsX4_example) := goodIn_app (goodIn_of _ (by decide +kernel)) ggX8_read_X4_example
set_option maxRecDepth 20000 in
theorem ggX8_read_X1_copyFrom : GoodIn wsX8_read wsX1_copyFrom := goodIn_r _ [146, 25, 26, 27, 147, 139, 140, 31, 141, 33, 142, 42, 43, 44, 244, 245, 246, 247] (by decide +kernel) (by decide +kernel)
set_option maxRecDepth 20000 in
theorem gX8_read_X1_copyFrom : GoodIn wsX8_read (wsV RX8 213 RX1 yX1_copyFrom wsX1_copyFrom) := goodIn_app (goodIn_of _ (by decide +kernel)) ggX8_read_X1_copyFrom
set_option maxRecDepth 20000 in
theorem ggX8_read_X5_find : GoodIn wsX8_read wsX5_find := goodIn_r _ [162, 163, 164, 165, 166, 167, 168, 161, 169, 170, 171, 172, 29, 30, 31, 32, 33, 173, 174, 175, 99, 176, 101, 102, 177, 150, 151, 106, 152, 136, 178, 179, 180, 181, 182, 183, 184, 185, 108, 186, 187, 188, 189, 129, 190, 191, 192, 23, 193, 25, 194, 42, 43, 44, 195, 196, 197, 198, 26, 199, 69, 70, 71, 200, 97, 98, 100, 201, 202, 203, 204, 137, 205, 206, 207, 208, 209, 210, 211, 212, 213, 214, 215, 216, 217, 218, 219, 220, 221, 135, 222, 223, 224, 225, 226, 227, 228, 229, 230, 231, 27, 232, 265, 266, 267, 268, 269, 270, 247, 250, 251, 252, 253, 254, 255, 256, 257, 258, 259, 244, 245, 246] (by decide +kernel) (by decide +kernel)
set_option maxRecDepth 20000 in
theorem gX8_read_X5_find : GoodIn wsX8_read (wsV RX8 127 RX5 yX5_find wsX5_find) := goodIn_app (goodIn_of _ (by decide +kernel)) ggX8_read_X5_find
theorem dX8_read_0 : decode cX8_read 0 = .ok (.iload_n 1, 1) := by decide +kernel
theorem dX8_read_1 : decode cX8_read 1 = .ok (.invokestatic 48, 3) := by decide +kernel
theorem dX8_read_4 : decode cX8_read 4 = .ok (.ifCond .ne 6, 3) := by decide +kernel
theorem dX8_read_7 : decode cX8_read 7 = .ok (.bipush (-11), 2) := by decide +kernel
theorem dX8_read_9 : decode cX8_read 9 = .ok (.ireturn, 1) := by decide +kernel
theorem dX8_read_10 : decode cX8_read 10 = .ok (.aload_n 0, 1) := by decide +kernel
theorem dX8_read_11 : decode cX8_read 11 = .ok (.getfield 44, 3) := by decide +kernel
theorem dX8_read_14 : decode cX8_read 14 = .ok (.invokevirtual 197, 3) := by decide +kernel
theorem dX8_read_17 : decode cX8_read 17 = .ok (.aload_n 0, 1) := by decide +kernel
theorem dX8_read_18 : decode cX8_read 18 = .ok (.getfield 44, 3) := by decide +kernel
theorem dX8_read_21 : decode cX8_read 21 = .ok (.invokevirtual 200, 3) := by decide +kernel
theorem dX8_read_24 : decode cX8_read 24 = .ok (.ifCond .ne 24, 3) := by decide +kernel
theorem dX8_read_27 : decode cX8_read 27 = .ok (.aload_n 0, 1) := by decide +kernel
theorem dX8_read_28 : decode cX8_read 28 = .ok (.getfield 44, 3) := by decide +kernel
theorem dX8_read_31 : decode cX8_read 31 = .ok (.invokevirtual 209, 3) := by decide +kernel
theorem dX8_read_34 : decode cX8_read 34 = .ok (.aload_n 0, 1) := by decide +kernel
theorem dX8_read_35 : decode cX8_read 35 = .ok (.getfield 12, 3) := by decide +kernel
theorem dX8_read_38 : decode cX8_read 38 = .ok (.iload_n 1, 1) := by decide +kernel
theorem dX8_read_39 : decode cX8_read 39 = .ok (.invokevirtual 55, 3) := by decide +kernel
theorem dX8_read_42 : decode cX8_read 42 = .ok (.invokevirtual 172, 3) := by decide +kernel
theorem dX8_read_45 : decode cX8_read 45 = .ok (.if_icmp .le 6, 3) := by decide +kernel
theorem dX8_read_48 : decode cX8_read 48 = .ok (.bipush (-12), 2) := by decide +kernel
theorem dX8_read_50 : decode cX8_read 50 = .ok (.ireturn, 1) := by decide +kernel
theorem dX8_read_51 : decode cX8_read 51 = .ok (.aload_n 0, 1) := by decide +kernel
theorem dX8_read_52 : decode cX8_read 52 = .ok (.getfield 19, 3) := by decide +kernel
theorem dX8_read_55 : decode cX8_read 55 = .ok (.aload_n 0, 1) := by decide +kernel
theorem dX8_read_56 : decode cX8_read 56 = .ok (.getfield 12, 3) := by decide +kernel
theorem dX8_read_59 : decode cX8_read 59 = .ok (.invokevirtual 52, 3) := by decide +kernel
theorem dX8_read_62 : decode cX8_read 62 = .ok (.aload_n 0, 1) := by decide +kernel
theorem dX8_read_63 : decode cX8_read 63 = .ok (.getfield 12, 3) := by decide +kernel
theorem dX8_read_66 : decode cX8_read 66 = .ok (.iload_n 1, 1) := by decide +kernel
theorem dX8_read_67 : decode cX8_read 67 = .ok (.invokevirtual 55, 3) := by decide +kernel
theorem dX8_read_70 : decode cX8_read 70 = .ok (.invokevirtual 101, 3) := by decide +kernel
theorem dX8_read_73 : decode cX8_read 73 = .ok (.aload_n 0, 1) := by decide +kernel
theorem dX8_read_74 : decode cX8_read 74 = .ok (.getfield 44, 3) := by decide +kernel
theorem dX8_read_77 : decode cX8_read 77 = .ok (.invokevirtual 212, 3) := by decide +kernel
theorem dX8_read_80 : decode cX8_read 80 = .ok (.invokevirtual 213, 3) := by decide +kernel
theorem dX8_read_83 : decode cX8_read 83 = .ok (.aload_n 0, 1) := by decide +kernel
theorem dX8_read_84 : decode cX8_read 84 = .ok (.getfield 28, 3) := by decide +kernel
theorem dX8_read_87 : decode cX8_read 87 = .ok (.iconst (-1), 1) := by decide +kernel
theorem dX8_read_88 : decode cX8_read 88 = .ok (.invokevirtual 127, 3) := by decide +kernel
theorem dX8_read_91 : decode cX8_read 91 = .ok (.ireturn, 1) := by decide +kernel
theorem dX8_isBit_0 : decode cX8_isBit 0 = .ok (.iload_n 0, 1) := by decide +kernel
theorem dX8_isBit_1 : decode cX8_isBit 1 = .ok (.ifCond .eq 8, 3) := by decide +kernel
theorem dX8_isBit_4 : decode cX8_isBit 4 = .ok (.iload_n 0, 1) := by decide +kernel
theorem dX8_isBit_5 : decode cX8_isBit 5 = .ok (.iconst 1, 1) := by decide +kernel
theorem dX8_isBit_6 : decode cX8_isBit 6 = .ok (.if_icmp .ne 7, 3) := by decide +kernel
theorem dX8_isBit_9 : decode cX8_isBit 9 = .ok (.iconst 1, 1) := by decide +kernel
theorem dX8_isBit_10 : decode cX8_isBit 10 = .ok (.goto 4, 3) := by decide +kernel
theorem dX8_isBit_13 : decode cX8_isBit 13 = .ok (.iconst 0, 1) := by decide +kernel
theorem dX8_isBit_14 : decode cX8_isBit 14 = .ok (.ireturn, 1) := by decide +kernel
theorem dX8_isEntry_0 : decode cX8_isEntry 0 = .ok (.iload_n 0, 1) := by decide +kernel
theorem dX8_isEntry_1 : decode cX8_isEntry 1 = .ok (.iconst (-1), 1) := by decide +kernel
theorem dX8_isEntry_2 : decode cX8_isEntry 2 = .ok (.if_icmp .lt 13, 3) := by decide +kernel
theorem dX8_isEntry_5 : decode cX8_isEntry 5 = .ok (.iload_n 0, 1) := by decide +kernel
theorem dX8_isEntry_6 : decode cX8_isEntry 6 = .ok (.bipush 99, 2) := by decide +kernel
theorem dX8_isEntry_8 : decode cX8_isEntry 8 = .ok (.if_icmp .gt 7, 3) := by decide +kernel
theorem dX8_isEntry_11 : decode cX8_isEntry 11 = .ok (.iconst 1, 1) := by decide +kernel
theorem dX8_isEntry_12 : decode cX8_isEntry 12 = .ok (.goto 4, 3) := by decide +kernel
theorem dX8_isEntry_15 : decode cX8_isEntry 15 = .ok (.iconst 0, 1) := by decide +kernel
theorem dX8_isEntry_16 : decode cX8_isEntry 16 = .ok (.ireturn, 1) := by decide +kernel
set_option maxRecDepth 20000 in
theorem ggX8_isCell_X8_isBit : GoodIn wsX8_isCell wsX8_isBit := goodIn_r _ [5] (by decide +kernel) (by decide +kernel)
set_option maxRecDepth 20000 in
theorem gX8_isCell_X8_isBit : GoodIn wsX8_isCell (va_wsS RX8 48 yX8_isBit wsX8_isBit) := goodIn_app (goodIn_of _ (by decide +kernel)) ggX8_isCell_X8_isBit
set_option maxRecDepth 20000 in
theorem ggX8_isCell_X6_drawer : GoodIn wsX8_isCell wsX6_drawer := goodIn_r _ [10, 11, 12, 24, 25, 26, 27, 28, 29] (by decide +kernel) (by decide +kernel)
set_option maxRecDepth 20000 in
theorem gX8_isCell_X6_drawer : GoodIn wsX8_isCell (wsV RX8 55 RX6 yX6_drawer wsX6_drawer) := goodIn_app (goodIn_of _ (by decide +kernel)) ggX8_isCell_X6_drawer
set_option maxRecDepth 20000 in
theorem ggX8_isCell_X0_hasColumn : GoodIn wsX8_isCell wsX0_hasColumn := goodIn_r _ [17, 18, 30, 31, 32, 33] (by decide +kernel) (by decide +kernel)
set_option maxRecDepth 20000 in
theorem gX8_isCell_X0_hasColumn : GoodIn wsX8_isCell (wsV RX8 217 RX0 yX0_hasColumn wsX0_hasColumn) := goodIn_app (goodIn_of _ (by decide +kernel)) ggX8_isCell_X0_hasColumn
theorem dX8_isCell_0 : decode cX8_isCell 0 = .ok (.iload_n 1, 1) := by decide +kernel
theorem dX8_isCell_1 : decode cX8_isCell 1 = .ok (.invokestatic 48, 3) := by decide +kernel
theorem dX8_isCell_4 : decode cX8_isCell 4 = .ok (.ifCond .eq 22, 3) := by decide +kernel
theorem dX8_isCell_7 : decode cX8_isCell 7 = .ok (.aload_n 0, 1) := by decide +kernel
theorem dX8_isCell_8 : decode cX8_isCell 8 = .ok (.getfield 12, 3) := by decide +kernel
theorem dX8_isCell_11 : decode cX8_isCell 11 = .ok (.iload_n 1, 1) := by decide +kernel
theorem dX8_isCell_12 : decode cX8_isCell 12 = .ok (.invokevirtual 55, 3) := by decide +kernel
theorem dX8_isCell_15 : decode cX8_isCell 15 = .ok (.iload_n 2, 1) := by decide +kernel
theorem dX8_isCell_16 : decode cX8_isCell 16 = .ok (.invokevirtual 217, 3) := by decide +kernel
theorem dX8_isCell_19 : decode cX8_isCell 19 = .ok (.ifCond .eq 7, 3) := by decide +kernel
theorem dX8_isCell_22 : decode cX8_isCell 22 = .ok (.iconst 1, 1) := by decide +kernel
theorem dX8_isCell_23 : decode cX8_isCell 23 = .ok (.goto 4, 3) := by decide +kernel
theorem dX8_isCell_26 : decode cX8_isCell 26 = .ok (.iconst 0, 1) := by decide +kernel
theorem dX8_isCell_27 : decode cX8_isCell 27 = .ok (.ireturn, 1) := by decide +kernel
set_option maxRecDepth 20000 in
theorem ggX8_isPlace_X8_isCell : GoodIn wsX8_isPlace wsX8_isCell := goodIn_r _ [6, 1, 7, 8, 5, 9, 10, 11, 12, 13, 14, 15, 16, 17, 18, 19, 20, 21, 22, 28, 29, 30, 31, 32, 33, 34, 35, 36, 37, 38, 39, 40, 41, 42] (by decide +kernel) (by decide +kernel)
set_option maxRecDepth 20000 in
theorem gX8_isPlace_X8_isCell : GoodIn wsX8_isPlace (wsV RX8 94 RX8 yX8_isCell wsX8_isCell) := goodIn_app (goodIn_of _ (by decide +kernel)) ggX8_isPlace_X8_isCell
set_option maxRecDepth 20000 in
theorem ggX8_isPlace_X6_drawer : GoodIn wsX8_isPlace wsX6_drawer := goodIn_r _ [14, 15, 16, 33, 34, 35, 36, 37, 38] (by decide +kernel) (by decide +kernel)
set_option maxRecDepth 20000 in
theorem gX8_isPlace_X6_drawer : GoodIn wsX8_isPlace (wsV RX8 55 RX6 yX6_drawer wsX6_drawer) := goodIn_app (goodIn_of _ (by decide +kernel)) ggX8_isPlace_X6_drawer
set_option maxRecDepth 20000 in
theorem ggX8_isPlace_X0_hasCard : GoodIn wsX8_isPlace wsX0_hasCard := goodIn_r _ [26, 27, 39, 40, 41, 42] (by decide +kernel) (by decide +kernel)
set_option maxRecDepth 20000 in
theorem gX8_isPlace_X0_hasCard : GoodIn wsX8_isPlace (wsV RX8 84 RX0 yX0_hasCard wsX0_hasCard) := goodIn_app (goodIn_of _ (by decide +kernel)) ggX8_isPlace_X0_hasCard
theorem dX8_isPlace_0 : decode cX8_isPlace 0 = .ok (.aload_n 0, 1) := by decide +kernel
theorem dX8_isPlace_1 : decode cX8_isPlace 1 = .ok (.iload_n 1, 1) := by decide +kernel
theorem dX8_isPlace_2 : decode cX8_isPlace 2 = .ok (.iload_n 3, 1) := by decide +kernel
theorem dX8_isPlace_3 : decode cX8_isPlace 3 = .ok (.invokevirtual 94, 3) := by decide +kernel
theorem dX8_isPlace_6 : decode cX8_isPlace 6 = .ok (.ifCond .eq 22, 3) := by decide +kernel
theorem dX8_isPlace_9 : decode cX8_isPlace 9 = .ok (.aload_n 0, 1) := by decide +kernel
theorem dX8_isPlace_10 : decode cX8_isPlace 10 = .ok (.getfield 12, 3) := by decide +kernel
theorem dX8_isPlace_13 : decode cX8_isPlace 13 = .ok (.iload_n 1, 1) := by decide +kernel
theorem dX8_isPlace_14 : decode cX8_isPlace 14 = .ok (.invokevirtual 55, 3) := by decide +kernel
theorem dX8_isPlace_17 : decode cX8_isPlace 17 = .ok (.iload_n 2, 1) := by decide +kernel
theorem dX8_isPlace_18 : decode cX8_isPlace 18 = .ok (.invokevirtual 84, 3) := by decide +kernel
theorem dX8_isPlace_21 : decode cX8_isPlace 21 = .ok (.ifCond .eq 7, 3) := by decide +kernel
theorem dX8_isPlace_24 : decode cX8_isPlace 24 = .ok (.iconst 1, 1) := by decide +kernel
theorem dX8_isPlace_25 : decode cX8_isPlace 25 = .ok (.goto 4, 3) := by decide +kernel
theorem dX8_isPlace_28 : decode cX8_isPlace 28 = .ok (.iconst 0, 1) := by decide +kernel
theorem dX8_isPlace_29 : decode cX8_isPlace 29 = .ok (.ireturn, 1) := by decide +kernel
set_option maxRecDepth 20000 in
theorem ggX8_isContent_X8_greatestFirst : GoodIn wsX8_isContent wsX8_greatestFirst := goodIn_r _ [4] (by decide +kernel) (by decide +kernel)
set_option maxRecDepth 20000 in
theorem gX8_isContent_X8_greatestFirst : GoodIn wsX8_isContent (va_wsS RX8 220 yX8_greatestFirst wsX8_greatestFirst) := goodIn_app (goodIn_of _ (by decide +kernel)) ggX8_isContent_X8_greatestFirst
theorem dX8_isContent_0 : decode cX8_isContent 0 = .ok (.iload_n 0, 1) := by decide +kernel
theorem dX8_isContent_1 : decode cX8_isContent 1 = .ok (.ifCond .lt 21, 3) := by decide +kernel
theorem dX8_isContent_4 : decode cX8_isContent 4 = .ok (.iload_n 0, 1) := by decide +kernel
theorem dX8_isContent_5 : decode cX8_isContent 5 = .ok (.bipush 10, 2) := by decide +kernel
theorem dX8_isContent_7 : decode cX8_isContent 7 = .ok (.if_icmp .gt 15, 3) := by decide +kernel
theorem dX8_isContent_10 : decode cX8_isContent 10 = .ok (.iload_n 1, 1) := by decide +kernel
theorem dX8_isContent_11 : decode cX8_isContent 11 = .ok (.ifCond .lt 11, 3) := by decide +kernel
theorem dX8_isContent_14 : decode cX8_isContent 14 = .ok (.iload_n 1, 1) := by decide +kernel
theorem dX8_isContent_15 : decode cX8_isContent 15 = .ok (.iload_n 0, 1) := by decide +kernel
theorem dX8_isContent_16 : decode cX8_isContent 16 = .ok (.invokestatic 220, 3) := by decide +kernel
theorem dX8_isContent_19 : decode cX8_isContent 19 = .ok (.if_icmp .le 5, 3) := by decide +kernel
theorem dX8_isContent_22 : decode cX8_isContent 22 = .ok (.iconst 0, 1) := by decide +kernel
theorem dX8_isContent_23 : decode cX8_isContent 23 = .ok (.ireturn, 1) := by decide +kernel
theorem dX8_isContent_24 : decode cX8_isContent 24 = .ok (.iload_n 0, 1) := by decide +kernel
theorem dX8_isContent_25 : decode cX8_isContent 25 = .ok (.bipush 7, 2) := by decide +kernel
theorem dX8_isContent_27 : decode cX8_isContent 27 = .ok (.if_icmp .ne 22, 3) := by decide +kernel
theorem dX8_isContent_30 : decode cX8_isContent 30 = .ok (.iload_n 2, 1) := by decide +kernel
theorem dX8_isContent_31 : decode cX8_isContent 31 = .ok (.iload_n 1, 1) := by decide +kernel
theorem dX8_isContent_32 : decode cX8_isContent 32 = .ok (.if_icmp .lt 13, 3) := by decide +kernel
theorem dX8_isContent_35 : decode cX8_isContent 35 = .ok (.iload_n 2, 1) := by decide +kernel
theorem dX8_isContent_36 : decode cX8_isContent 36 = .ok (.bipush 99, 2) := by decide +kernel
theorem dX8_isContent_38 : decode cX8_isContent 38 = .ok (.if_icmp .gt 7, 3) := by decide +kernel
theorem dX8_isContent_41 : decode cX8_isContent 41 = .ok (.iconst 1, 1) := by decide +kernel
theorem dX8_isContent_42 : decode cX8_isContent 42 = .ok (.goto 16, 3) := by decide +kernel
theorem dX8_isContent_45 : decode cX8_isContent 45 = .ok (.iconst 0, 1) := by decide +kernel
theorem dX8_isContent_46 : decode cX8_isContent 46 = .ok (.goto 12, 3) := by decide +kernel
theorem dX8_isContent_49 : decode cX8_isContent 49 = .ok (.iload_n 2, 1) := by decide +kernel
theorem dX8_isContent_50 : decode cX8_isContent 50 = .ok (.ifCond .ne 7, 3) := by decide +kernel
theorem dX8_isContent_53 : decode cX8_isContent 53 = .ok (.iconst 1, 1) := by decide +kernel
theorem dX8_isContent_54 : decode cX8_isContent 54 = .ok (.goto 4, 3) := by decide +kernel
theorem dX8_isContent_57 : decode cX8_isContent 57 = .ok (.iconst 0, 1) := by decide +kernel
theorem dX8_isContent_58 : decode cX8_isContent 58 = .ok (.ireturn, 1) := by decide +kernel
theorem dX8_greatestFirst_0 : decode cX8_greatestFirst 0 = .ok (.iload_n 0, 1) := by decide +kernel
theorem dX8_greatestFirst_1 : decode cX8_greatestFirst 1 = .ok (.iconst 3, 1) := by decide +kernel
theorem dX8_greatestFirst_2 : decode cX8_greatestFirst 2 = .ok (.if_icmp .ge 5, 3) := by decide +kernel
theorem dX8_greatestFirst_5 : decode cX8_greatestFirst 5 = .ok (.iconst 0, 1) := by decide +kernel
theorem dX8_greatestFirst_6 : decode cX8_greatestFirst 6 = .ok (.ireturn, 1) := by decide +kernel
theorem dX8_greatestFirst_7 : decode cX8_greatestFirst 7 = .ok (.iload_n 0, 1) := by decide +kernel
theorem dX8_greatestFirst_8 : decode cX8_greatestFirst 8 = .ok (.bipush 8, 2) := by decide +kernel
theorem dX8_greatestFirst_10 : decode cX8_greatestFirst 10 = .ok (.if_icmp .ge 8, 3) := by decide +kernel
theorem dX8_greatestFirst_13 : decode cX8_greatestFirst 13 = .ok (.bipush 99, 2) := by decide +kernel
theorem dX8_greatestFirst_15 : decode cX8_greatestFirst 15 = .ok (.goto 4, 3) := by decide +kernel
theorem dX8_greatestFirst_18 : decode cX8_greatestFirst 18 = .ok (.iconst 3, 1) := by decide +kernel
theorem dX8_greatestFirst_19 : decode cX8_greatestFirst 19 = .ok (.ireturn, 1) := by decide +kernel
set_option maxRecDepth 20000 in
theorem ggX8_isAboutRow_X8_isBit : GoodIn wsX8_isAboutRow wsX8_isBit := goodIn_r _ [4] (by decide +kernel) (by decide +kernel)
set_option maxRecDepth 20000 in
theorem gX8_isAboutRow_X8_isBit : GoodIn wsX8_isAboutRow (va_wsS RX8 48 yX8_isBit wsX8_isBit) := goodIn_app (goodIn_of _ (by decide +kernel)) ggX8_isAboutRow_X8_isBit
theorem dX8_isAboutRow_0 : decode cX8_isAboutRow 0 = .ok (.iload_n 0, 1) := by decide +kernel
theorem dX8_isAboutRow_1 : decode cX8_isAboutRow 1 = .ok (.invokestatic 48, 3) := by decide +kernel
theorem dX8_isAboutRow_4 : decode cX8_isAboutRow 4 = .ok (.ifCond .ne 27, 3) := by decide +kernel
theorem dX8_isAboutRow_7 : decode cX8_isAboutRow 7 = .ok (.iload_n 0, 1) := by decide +kernel
theorem dX8_isAboutRow_8 : decode cX8_isAboutRow 8 = .ok (.bipush 10, 2) := by decide +kernel
theorem dX8_isAboutRow_10 : decode cX8_isAboutRow 10 = .ok (.if_icmp .lt 9, 3) := by decide +kernel
theorem dX8_isAboutRow_13 : decode cX8_isAboutRow 13 = .ok (.iload_n 0, 1) := by decide +kernel
theorem dX8_isAboutRow_14 : decode cX8_isAboutRow 14 = .ok (.bipush 18, 2) := by decide +kernel
theorem dX8_isAboutRow_16 : decode cX8_isAboutRow 16 = .ok (.if_icmp .lt 15, 3) := by decide +kernel
theorem dX8_isAboutRow_19 : decode cX8_isAboutRow 19 = .ok (.iload_n 0, 1) := by decide +kernel
theorem dX8_isAboutRow_20 : decode cX8_isAboutRow 20 = .ok (.bipush 20, 2) := by decide +kernel
theorem dX8_isAboutRow_22 : decode cX8_isAboutRow 22 = .ok (.if_icmp .lt 13, 3) := by decide +kernel
theorem dX8_isAboutRow_25 : decode cX8_isAboutRow 25 = .ok (.iload_n 0, 1) := by decide +kernel
theorem dX8_isAboutRow_26 : decode cX8_isAboutRow 26 = .ok (.bipush 24, 2) := by decide +kernel
theorem dX8_isAboutRow_28 : decode cX8_isAboutRow 28 = .ok (.if_icmp .ge 7, 3) := by decide +kernel
theorem dX8_isAboutRow_31 : decode cX8_isAboutRow 31 = .ok (.iconst 1, 1) := by decide +kernel
theorem dX8_isAboutRow_32 : decode cX8_isAboutRow 32 = .ok (.goto 4, 3) := by decide +kernel
theorem dX8_isAboutRow_35 : decode cX8_isAboutRow 35 = .ok (.iconst 0, 1) := by decide +kernel
theorem dX8_isAboutRow_36 : decode cX8_isAboutRow 36 = .ok (.ireturn, 1) := by decide +kernel
