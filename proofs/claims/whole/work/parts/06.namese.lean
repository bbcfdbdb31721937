theorem dX8_why_0 : decode cX8_why 0 = .ok (.aload_n 0, 1) := by decide +kernel
theorem dX8_why_1 : decode cX8_why 1 = .ok (.getfield 12, 3) := by decide +kernel
theorem dX8_why_4 : decode cX8_why 4 = .ok (.invokevirtual 152, 3) := by decide +kernel
theorem dX8_why_7 : decode cX8_why 7 = .ok (.ifCond .eq 18, 3) := by decide +kernel
theorem dX8_why_10 : decode cX8_why 10 = .ok (.aload_n 0, 1) := by decide +kernel
theorem dX8_why_11 : decode cX8_why 11 = .ok (.getfield 12, 3) := by decide +kernel
theorem dX8_why_14 : decode cX8_why 14 = .ok (.iconst 1, 1) := by decide +kernel
theorem dX8_why_15 : decode cX8_why 15 = .ok (.invokevirtual 55, 3) := by decide +kernel
theorem dX8_why_18 : decode cX8_why 18 = .ok (.iload_n 2, 1) := by decide +kernel
theorem dX8_why_19 : decode cX8_why 19 = .ok (.invokevirtual 84, 3) := by decide +kernel
theorem dX8_why_22 : decode cX8_why 22 = .ok (.goto 12, 3) := by decide +kernel
theorem dX8_why_25 : decode cX8_why 25 = .ok (.iload_n 2, 1) := by decide +kernel
theorem dX8_why_26 : decode cX8_why 26 = .ok (.ifCond .ne 7, 3) := by decide +kernel
theorem dX8_why_29 : decode cX8_why 29 = .ok (.iconst 1, 1) := by decide +kernel
theorem dX8_why_30 : decode cX8_why 30 = .ok (.goto 4, 3) := by decide +kernel
theorem dX8_why_33 : decode cX8_why 33 = .ok (.iconst 0, 1) := by decide +kernel
theorem dX8_why_34 : decode cX8_why 34 = .ok (.istore_n 3, 1) := by decide +kernel
theorem dX8_why_35 : decode cX8_why 35 = .ok (.aload_n 0, 1) := by decide +kernel
theorem dX8_why_36 : decode cX8_why 36 = .ok (.getfield 12, 3) := by decide +kernel
theorem dX8_why_39 : decode cX8_why 39 = .ok (.iconst 0, 1) := by decide +kernel
theorem dX8_why_40 : decode cX8_why 40 = .ok (.invokevirtual 55, 3) := by decide +kernel
theorem dX8_why_43 : decode cX8_why 43 = .ok (.iload_n 1, 1) := by decide +kernel
theorem dX8_why_44 : decode cX8_why 44 = .ok (.invokevirtual 84, 3) := by decide +kernel
theorem dX8_why_47 : decode cX8_why 47 = .ok (.ifCond .eq 7, 3) := by decide +kernel
theorem dX8_why_50 : decode cX8_why 50 = .ok (.iload_n 3, 1) := by decide +kernel
theorem dX8_why_51 : decode cX8_why 51 = .ok (.ifCond .ne 6, 3) := by decide +kernel
theorem dX8_why_54 : decode cX8_why 54 = .ok (.bipush (-11), 2) := by decide +kernel
theorem dX8_why_56 : decode cX8_why 56 = .ok (.ireturn, 1) := by decide +kernel
theorem dX8_why_57 : decode cX8_why 57 = .ok (.aload_n 0, 1) := by decide +kernel
theorem dX8_why_58 : decode cX8_why 58 = .ok (.getfield 28, 3) := by decide +kernel
theorem dX8_why_61 : decode cX8_why 61 = .ok (.iload_n 1, 1) := by decide +kernel
theorem dX8_why_62 : decode cX8_why 62 = .ok (.bipush 12, 2) := by decide +kernel
theorem dX8_why_64 : decode cX8_why 64 = .ok (.imul, 1) := by decide +kernel
theorem dX8_why_65 : decode cX8_why 65 = .ok (.iload_n 2, 1) := by decide +kernel
theorem dX8_why_66 : decode cX8_why 66 = .ok (.iadd, 1) := by decide +kernel
theorem dX8_why_67 : decode cX8_why 67 = .ok (.invokevirtual 169, 3) := by decide +kernel
theorem dX8_why_70 : decode cX8_why 70 = .ok (.istore 4, 2) := by decide +kernel
theorem dX8_why_72 : decode cX8_why 72 = .ok (.iload 4, 2) := by decide +kernel
theorem dX8_why_74 : decode cX8_why 74 = .ok (.iconst (-1), 1) := by decide +kernel
theorem dX8_why_75 : decode cX8_why 75 = .ok (.if_icmp .ne 8, 3) := by decide +kernel
theorem dX8_why_78 : decode cX8_why 78 = .ok (.bipush (-14), 2) := by decide +kernel
theorem dX8_why_80 : decode cX8_why 80 = .ok (.goto 5, 3) := by decide +kernel
theorem dX8_why_83 : decode cX8_why 83 = .ok (.iload 4, 2) := by decide +kernel
theorem dX8_why_85 : decode cX8_why 85 = .ok (.ireturn, 1) := by decide +kernel
set_option maxRecDepth 20000 in
theorem ggX8_tightest_X8_isBit : GoodIn wsX8_tightest wsX8_isBit := goodIn_r _ [6] (by decide +kernel) (by decide +kernel)
set_option maxRecDepth 20000 in
theorem gX8_tightest_X8_isBit : GoodIn wsX8_tightest (va_wsS RX8 48 yX8_isBit wsX8_isBit) := goodIn_app (goodIn_of _ (by decide +kernel)) ggX8_tightest_X8_isBit
set_option maxRecDepth 20000 in
theorem ggX8_tightest_X5_find : GoodIn wsX8_tightest wsX5_find := goodIn_r _ [11, 12, 13, 14, 15, 16, 17, 10, 18, 19, 20, 21, 22, 23, 24, 25, 26, 27, 28, 29, 30, 31, 32, 33, 34, 35, 36, 37, 38, 39, 40, 41, 42, 43, 44, 45, 46, 47, 48, 49, 50, 51, 52, 53, 54, 55, 56, 57, 58, 59, 60, 61, 62, 63, 64, 65, 66, 67, 68, 69, 70, 71, 72, 73, 74, 75, 76, 77, 78, 79, 80, 81, 82, 83, 84, 85, 86, 87, 88, 89, 90, 91, 92, 93, 94, 95, 96, 97, 98, 99, 100, 101, 102, 103, 104, 105, 106, 107, 108, 109, 110, 111, 118, 119, 120, 121, 122, 123, 124, 125, 126, 127, 128, 129, 130, 131, 132, 133, 134, 135, 136, 137] (by decide +kernel) (by decide +kernel)
set_option maxRecDepth 20000 in
theorem gX8_tightest_X5_find : GoodIn wsX8_tightest (wsV RX8 127 RX5 yX5_find wsX5_find) := goodIn_app (goodIn_of _ (by decide +kernel)) ggX8_tightest_X5_find
set_option maxRecDepth 20000 in
theorem ggX8_tightest_X6_isAsked : GoodIn wsX8_tightest wsX6_isAsked := goodIn_r _ [43, 32, 33, 44, 45, 46, 37, 47, 48, 49, 50, 51, 30, 52, 53, 125, 126, 127, 128, 129, 130, 131, 132, 133, 134] (by decide +kernel) (by decide +kernel)
set_option maxRecDepth 20000 in
theorem gX8_tightest_X6_isAsked : GoodIn wsX8_tightest (wsV RX8 159 RX6 yX6_isAsked wsX6_isAsked) := goodIn_app (goodIn_of _ (by decide +kernel)) ggX8_tightest_X6_isAsked
theorem dX8_tightest_0 : decode cX8_tightest 0 = .ok (.iload_n 1, 1) := by decide +kernel
theorem dX8_tightest_1 : decode cX8_tightest 1 = .ok (.invokestatic 48, 3) := by decide +kernel
theorem dX8_tightest_4 : decode cX8_tightest 4 = .ok (.ifCond .ne 6, 3) := by decide +kernel
theorem dX8_tightest_7 : decode cX8_tightest 7 = .ok (.bipush (-11), 2) := by decide +kernel
theorem dX8_tightest_9 : decode cX8_tightest 9 = .ok (.ireturn, 1) := by decide +kernel
theorem dX8_tightest_10 : decode cX8_tightest 10 = .ok (.aload_n 0, 1) := by decide +kernel
theorem dX8_tightest_11 : decode cX8_tightest 11 = .ok (.getfield 28, 3) := by decide +kernel
theorem dX8_tightest_14 : decode cX8_tightest 14 = .ok (.iconst (-1), 1) := by decide +kernel
theorem dX8_tightest_15 : decode cX8_tightest 15 = .ok (.invokevirtual 127, 3) := by decide +kernel
theorem dX8_tightest_18 : decode cX8_tightest 18 = .ok (.istore_n 2, 1) := by decide +kernel
theorem dX8_tightest_19 : decode cX8_tightest 19 = .ok (.iconst (-1), 1) := by decide +kernel
theorem dX8_tightest_20 : decode cX8_tightest 20 = .ok (.istore_n 3, 1) := by decide +kernel
theorem dX8_tightest_21 : decode cX8_tightest 21 = .ok (.iconst 0, 1) := by decide +kernel
theorem dX8_tightest_22 : decode cX8_tightest 22 = .ok (.istore 4, 2) := by decide +kernel
theorem dX8_tightest_24 : decode cX8_tightest 24 = .ok (.iload 4, 2) := by decide +kernel
theorem dX8_tightest_26 : decode cX8_tightest 26 = .ok (.bipush 8, 2) := by decide +kernel
theorem dX8_tightest_28 : decode cX8_tightest 28 = .ok (.if_icmp .ge 48, 3) := by decide +kernel
theorem dX8_tightest_31 : decode cX8_tightest 31 = .ok (.aload_n 0, 1) := by decide +kernel
theorem dX8_tightest_32 : decode cX8_tightest 32 = .ok (.getfield 12, 3) := by decide +kernel
theorem dX8_tightest_35 : decode cX8_tightest 35 = .ok (.iload 4, 2) := by decide +kernel
theorem dX8_tightest_37 : decode cX8_tightest 37 = .ok (.invokevirtual 159, 3) := by decide +kernel
theorem dX8_tightest_40 : decode cX8_tightest 40 = .ok (.ifCond .eq 15, 3) := by decide +kernel
theorem dX8_tightest_43 : decode cX8_tightest 43 = .ok (.aload_n 0, 1) := by decide +kernel
theorem dX8_tightest_44 : decode cX8_tightest 44 = .ok (.getfield 28, 3) := by decide +kernel
theorem dX8_tightest_47 : decode cX8_tightest 47 = .ok (.iload 4, 2) := by decide +kernel
theorem dX8_tightest_49 : decode cX8_tightest 49 = .ok (.invokevirtual 127, 3) := by decide +kernel
theorem dX8_tightest_52 : decode cX8_tightest 52 = .ok (.goto 4, 3) := by decide +kernel
theorem dX8_tightest_55 : decode cX8_tightest 55 = .ok (.iconst 0, 1) := by decide +kernel
theorem dX8_tightest_56 : decode cX8_tightest 56 = .ok (.istore 5, 2) := by decide +kernel
theorem dX8_tightest_58 : decode cX8_tightest 58 = .ok (.iload 5, 2) := by decide +kernel
theorem dX8_tightest_60 : decode cX8_tightest 60 = .ok (.iload_n 2, 1) := by decide +kernel
theorem dX8_tightest_61 : decode cX8_tightest 61 = .ok (.if_icmp .le 9, 3) := by decide +kernel
theorem dX8_tightest_64 : decode cX8_tightest 64 = .ok (.iload 5, 2) := by decide +kernel
theorem dX8_tightest_66 : decode cX8_tightest 66 = .ok (.istore_n 2, 1) := by decide +kernel
theorem dX8_tightest_67 : decode cX8_tightest 67 = .ok (.iload 4, 2) := by decide +kernel
theorem dX8_tightest_69 : decode cX8_tightest 69 = .ok (.istore_n 3, 1) := by decide +kernel
theorem dX8_tightest_70 : decode cX8_tightest 70 = .ok (.iinc 4 1, 3) := by decide +kernel
theorem dX8_tightest_73 : decode cX8_tightest 73 = .ok (.goto (-49), 3) := by decide +kernel
theorem dX8_tightest_76 : decode cX8_tightest 76 = .ok (.iload_n 3, 1) := by decide +kernel
theorem dX8_tightest_77 : decode cX8_tightest 77 = .ok (.iconst (-1), 1) := by decide +kernel
theorem dX8_tightest_78 : decode cX8_tightest 78 = .ok (.if_icmp .ne 6, 3) := by decide +kernel
theorem dX8_tightest_81 : decode cX8_tightest 81 = .ok (.bipush (-14), 2) := by decide +kernel
theorem dX8_tightest_83 : decode cX8_tightest 83 = .ok (.ireturn, 1) := by decide +kernel
theorem dX8_tightest_84 : decode cX8_tightest 84 = .ok (.iload_n 1, 1) := by decide +kernel
theorem dX8_tightest_85 : decode cX8_tightest 85 = .ok (.ifCond .ne 7, 3) := by decide +kernel
theorem dX8_tightest_88 : decode cX8_tightest 88 = .ok (.iload_n 3, 1) := by decide +kernel
theorem dX8_tightest_89 : decode cX8_tightest 89 = .ok (.goto 4, 3) := by decide +kernel
theorem dX8_tightest_92 : decode cX8_tightest 92 = .ok (.iload_n 2, 1) := by decide +kernel
theorem dX8_tightest_93 : decode cX8_tightest 93 = .ok (.ireturn, 1) := by decide +kernel
set_option maxRecDepth 20000 in
theorem ggX8_count_X6_drawer : GoodIn wsX8_count wsX6_drawer := goodIn_r _ [8, 9, 10, 77, 78, 79, 80, 81, 82] (by decide +kernel) (by decide +kernel)
set_option maxRecDepth 20000 in
theorem gX8_count_X6_drawer : GoodIn wsX8_count (wsV RX8 55 RX6 yX6_drawer wsX6_drawer) := goodIn_app (goodIn_of _ (by decide +kernel)) ggX8_count_X6_drawer
set_option maxRecDepth 20000 in
theorem ggX8_count_X0_size : GoodIn wsX8_count wsX0_size := goodIn_r _ [15, 16, 83, 84, 85, 86] (by decide +kernel) (by decide +kernel)
set_option maxRecDepth 20000 in
theorem gX8_count_X0_size : GoodIn wsX8_count (wsV RX8 68 RX0 yX0_size wsX0_size) := goodIn_app (goodIn_of _ (by decide +kernel)) ggX8_count_X0_size
set_option maxRecDepth 20000 in
theorem ggX8_count_X0_width : GoodIn wsX8_count wsX0_width := goodIn_r _ [20, 21, 83, 84, 85, 86] (by decide +kernel) (by decide +kernel)
set_option maxRecDepth 20000 in
theorem gX8_count_X0_width : GoodIn wsX8_count (wsV RX8 172 RX0 yX0_width wsX0_width) := goodIn_app (goodIn_of _ (by decide +kernel)) ggX8_count_X0_width
set_option maxRecDepth 20000 in
theorem ggX8_count_X6_isOfBoth : GoodIn wsX8_count wsX6_isOfBoth := goodIn_r _ [25, 26, 77, 78, 79, 80, 81, 82] (by decide +kernel) (by decide +kernel)
set_option maxRecDepth 20000 in
theorem gX8_count_X6_isOfBoth : GoodIn wsX8_count (wsV RX8 152 RX6 yX6_isOfBoth wsX6_isOfBoth) := goodIn_app (goodIn_of _ (by decide +kernel)) ggX8_count_X6_isOfBoth
set_option maxRecDepth 20000 in
theorem ggX8_count_X0_example : GoodIn wsX8_count wsX0_example := goodIn_r _ [30, 31, 83, 84, 85, 86] (by decide +kernel) (by decide +kernel)
set_option maxRecDepth 20000 in
theorem gX8_count_X0_example : GoodIn wsX8_count (wsV RX8 101 RX0 yX0_example wsX0_example) := goodIn_app (goodIn_of _ (by decide +kernel)) ggX8_count_X0_example
set_option maxRecDepth 20000 in
theorem ggX8_count_X1_otherKinds : GoodIn wsX8_count wsX1_otherKinds := goodIn_r _ [36, 37, 38, 39, 40, 41, 42, 43, 87, 88, 89, 90] (by decide +kernel) (by decide +kernel)
set_option maxRecDepth 20000 in
theorem gX8_count_X1_otherKinds : GoodIn wsX8_count (wsV RX8 114 RX1 yX1_otherKinds wsX1_otherKinds) := goodIn_app (goodIn_of _ (by decide +kernel)) ggX8_count_X1_otherKinds
set_option maxRecDepth 20000 in
theorem ggX8_count_X6_shownSet : GoodIn wsX8_count wsX6_shownSet := goodIn_r _ [47, 48, 77, 78, 79, 80, 81, 82] (by decide +kernel) (by decide +kernel)
set_option maxRecDepth 20000 in
theorem gX8_count_X6_shownSet : GoodIn wsX8_count (wsV RX8 175 RX6 yX6_shownSet wsX6_shownSet) := goodIn_app (goodIn_of _ (by decide +kernel)) ggX8_count_X6_shownSet
set_option maxRecDepth 20000 in
theorem ggX8_count_X2_size : GoodIn wsX8_count wsX2_size := goodIn_r _ [53, 54, 91, 92, 93, 94, 95] (by decide +kernel) (by decide +kernel)
set_option maxRecDepth 20000 in
theorem gX8_count_X2_size : GoodIn wsX8_count (wsV RX8 178 RX2 yX2_size wsX2_size) := goodIn_app (goodIn_of _ (by decide +kernel)) ggX8_count_X2_size
set_option maxRecDepth 20000 in
theorem ggX8_count_X7_length : GoodIn wsX8_count wsX7_length := goodIn_r _ [59, 60, 96, 97] (by decide +kernel) (by decide +kernel)
set_option maxRecDepth 20000 in
theorem gX8_count_X7_length : GoodIn wsX8_count (wsV RX8 179 RX7 yX7_length wsX7_length) := goodIn_app (goodIn_of _ (by decide +kernel)) ggX8_count_X7_length
set_option maxRecDepth 20000 in
theorem ggX8_count_X6_orderColumn : GoodIn wsX8_count wsX6_orderColumn := goodIn_r _ [64, 65, 66, 39, 40, 41, 42, 43, 77, 78, 79, 80, 81, 82, 90] (by decide +kernel) (by decide +kernel)
set_option maxRecDepth 20000 in
theorem gX8_count_X6_orderColumn : GoodIn wsX8_count (wsV RX8 182 RX6 yX6_orderColumn wsX6_orderColumn) := goodIn_app (goodIn_of _ (by decide +kernel)) ggX8_count_X6_orderColumn
set_option maxRecDepth 20000 in
theorem ggX8_count_X6_isDownwards : GoodIn wsX8_count wsX6_isDownwards := goodIn_r _ [70, 71, 66, 39, 40, 41, 42, 43, 77, 78, 79, 80, 81, 82, 90] (by decide +kernel) (by decide +kernel)
set_option maxRecDepth 20000 in
theorem gX8_count_X6_isDownwards : GoodIn wsX8_count (wsV RX8 185 RX6 yX6_isDownwards wsX6_isDownwards) := goodIn_app (goodIn_of _ (by decide +kernel)) ggX8_count_X6_isDownwards
theorem dX8_count_0 : decode cX8_count 0 = .ok (.iload_n 1, 1) := by decide +kernel
theorem dX8_count_1 : decode cX8_count 1 = .ok (.tableswitch 199 0 13 #[71, 71, 83, 83, 97, 113, 143, 151, 159, 199, 167, 167, 179, 179], 71) := by decide +kernel
theorem dX8_count_72 : decode cX8_count 72 = .ok (.aload_n 0, 1) := by decide +kernel
theorem dX8_count_73 : decode cX8_count 73 = .ok (.getfield 12, 3) := by decide +kernel
theorem dX8_count_76 : decode cX8_count 76 = .ok (.iload_n 1, 1) := by decide +kernel
theorem dX8_count_77 : decode cX8_count 77 = .ok (.invokevirtual 55, 3) := by decide +kernel
theorem dX8_count_80 : decode cX8_count 80 = .ok (.invokevirtual 68, 3) := by decide +kernel
theorem dX8_count_83 : decode cX8_count 83 = .ok (.ireturn, 1) := by decide +kernel
theorem dX8_count_84 : decode cX8_count 84 = .ok (.aload_n 0, 1) := by decide +kernel
theorem dX8_count_85 : decode cX8_count 85 = .ok (.getfield 12, 3) := by decide +kernel
theorem dX8_count_88 : decode cX8_count 88 = .ok (.iload_n 1, 1) := by decide +kernel
theorem dX8_count_89 : decode cX8_count 89 = .ok (.iconst 2, 1) := by decide +kernel
theorem dX8_count_90 : decode cX8_count 90 = .ok (.isub, 1) := by decide +kernel
theorem dX8_count_91 : decode cX8_count 91 = .ok (.invokevirtual 55, 3) := by decide +kernel
theorem dX8_count_94 : decode cX8_count 94 = .ok (.invokevirtual 172, 3) := by decide +kernel
theorem dX8_count_97 : decode cX8_count 97 = .ok (.ireturn, 1) := by decide +kernel
theorem dX8_count_98 : decode cX8_count 98 = .ok (.aload_n 0, 1) := by decide +kernel
theorem dX8_count_99 : decode cX8_count 99 = .ok (.getfield 12, 3) := by decide +kernel
theorem dX8_count_102 : decode cX8_count 102 = .ok (.invokevirtual 152, 3) := by decide +kernel
theorem dX8_count_105 : decode cX8_count 105 = .ok (.ifCond .eq 7, 3) := by decide +kernel
theorem dX8_count_108 : decode cX8_count 108 = .ok (.iconst 1, 1) := by decide +kernel
theorem dX8_count_109 : decode cX8_count 109 = .ok (.goto 4, 3) := by decide +kernel
theorem dX8_count_112 : decode cX8_count 112 = .ok (.iconst 0, 1) := by decide +kernel
theorem dX8_count_113 : decode cX8_count 113 = .ok (.ireturn, 1) := by decide +kernel
theorem dX8_count_114 : decode cX8_count 114 = .ok (.aload_n 0, 1) := by decide +kernel
theorem dX8_count_115 : decode cX8_count 115 = .ok (.getfield 12, 3) := by decide +kernel
theorem dX8_count_118 : decode cX8_count 118 = .ok (.iconst 0, 1) := by decide +kernel
theorem dX8_count_119 : decode cX8_count 119 = .ok (.invokevirtual 55, 3) := by decide +kernel
theorem dX8_count_122 : decode cX8_count 122 = .ok (.invokevirtual 101, 3) := by decide +kernel
theorem dX8_count_125 : decode cX8_count 125 = .ok (.invokevirtual 114, 3) := by decide +kernel
theorem dX8_count_128 : decode cX8_count 128 = .ok (.aload_n 0, 1) := by decide +kernel
theorem dX8_count_129 : decode cX8_count 129 = .ok (.getfield 12, 3) := by decide +kernel
theorem dX8_count_132 : decode cX8_count 132 = .ok (.iconst 1, 1) := by decide +kernel
theorem dX8_count_133 : decode cX8_count 133 = .ok (.invokevirtual 55, 3) := by decide +kernel
theorem dX8_count_136 : decode cX8_count 136 = .ok (.invokevirtual 101, 3) := by decide +kernel
theorem dX8_count_139 : decode cX8_count 139 = .ok (.invokevirtual 114, 3) := by decide +kernel
theorem dX8_count_142 : decode cX8_count 142 = .ok (.iadd, 1) := by decide +kernel
theorem dX8_count_143 : decode cX8_count 143 = .ok (.ireturn, 1) := by decide +kernel
theorem dX8_count_144 : decode cX8_count 144 = .ok (.aload_n 0, 1) := by decide +kernel
theorem dX8_count_145 : decode cX8_count 145 = .ok (.getfield 12, 3) := by decide +kernel
theorem dX8_count_148 : decode cX8_count 148 = .ok (.invokevirtual 175, 3) := by decide +kernel
theorem dX8_count_151 : decode cX8_count 151 = .ok (.ireturn, 1) := by decide +kernel
theorem dX8_count_152 : decode cX8_count 152 = .ok (.aload_n 0, 1) := by decide +kernel
theorem dX8_count_153 : decode cX8_count 153 = .ok (.getfield 19, 3) := by decide +kernel
theorem dX8_count_156 : decode cX8_count 156 = .ok (.invokevirtual 178, 3) := by decide +kernel
theorem dX8_count_159 : decode cX8_count 159 = .ok (.ireturn, 1) := by decide +kernel
theorem dX8_count_160 : decode cX8_count 160 = .ok (.aload_n 0, 1) := by decide +kernel
theorem dX8_count_161 : decode cX8_count 161 = .ok (.getfield 35, 3) := by decide +kernel
theorem dX8_count_164 : decode cX8_count 164 = .ok (.invokevirtual 179, 3) := by decide +kernel
theorem dX8_count_167 : decode cX8_count 167 = .ok (.ireturn, 1) := by decide +kernel
theorem dX8_count_168 : decode cX8_count 168 = .ok (.aload_n 0, 1) := by decide +kernel
theorem dX8_count_169 : decode cX8_count 169 = .ok (.getfield 12, 3) := by decide +kernel
theorem dX8_count_172 : decode cX8_count 172 = .ok (.iload_n 1, 1) := by decide +kernel
theorem dX8_count_173 : decode cX8_count 173 = .ok (.bipush 10, 2) := by decide +kernel
theorem dX8_count_175 : decode cX8_count 175 = .ok (.isub, 1) := by decide +kernel
theorem dX8_count_176 : decode cX8_count 176 = .ok (.invokevirtual 182, 3) := by decide +kernel
theorem dX8_count_179 : decode cX8_count 179 = .ok (.ireturn, 1) := by decide +kernel
theorem dX8_count_180 : decode cX8_count 180 = .ok (.aload_n 0, 1) := by decide +kernel
theorem dX8_count_181 : decode cX8_count 181 = .ok (.getfield 12, 3) := by decide +kernel
theorem dX8_count_184 : decode cX8_count 184 = .ok (.iload_n 1, 1) := by decide +kernel
theorem dX8_count_185 : decode cX8_count 185 = .ok (.bipush 12, 2) := by decide +kernel
theorem dX8_count_187 : decode cX8_count 187 = .ok (.isub, 1) := by decide +kernel
theorem dX8_count_188 : decode cX8_count 188 = .ok (.invokevirtual 185, 3) := by decide +kernel
theorem dX8_count_191 : decode cX8_count 191 = .ok (.ifCond .eq 7, 3) := by decide +kernel
theorem dX8_count_194 : decode cX8_count 194 = .ok (.iconst 1, 1) := by decide +kernel
theorem dX8_count_195 : decode cX8_count 195 = .ok (.goto 4, 3) := by decide +kernel
theorem dX8_count_198 : decode cX8_count 198 = .ok (.iconst 0, 1) := by decide +kernel
theorem dX8_count_199 : decode cX8_count 199 = .ok (.ireturn, 1) := by decide +kernel
theorem dX8_count_200 : decode cX8_count 200 = .ok (.bipush (-11), 2) := by decide +kernel
theorem dX8_count_202 : decode cX8_count 202 = .ok (.ireturn, 1) := by decide +kernel
set_option maxRecDepth 20000 in
theorem ggX8_undo_X2_size : GoodIn wsX8_undo wsX2_size := goodIn_r _ [7, 8, 66, 67, 68, 69, 70] (by decide +kernel) (by decide +kernel)
set_option maxRecDepth 20000 in
theorem gX8_undo_X2_size : GoodIn wsX8_undo (wsV RX8 178 RX2 yX2_size wsX2_size) := goodIn_app (goodIn_of _ (by decide +kernel)) ggX8_undo_X2_size
set_option maxRecDepth 20000 in
theorem ggX8_undo_X2_restore : GoodIn wsX8_undo wsX2_restore := goodIn_r _ [12, 13, 14, 15, 16, 8, 17, 18, 19, 20, 21, 22, 23, 24, 25, 26, 27, 28, 29, 30, 31, 32, 33, 34, 35, 36, 37, 38, 39, 40, 41, 42, 43, 44, 45, 46, 47, 48, 49, 50, 51, 52, 53, 54, 55, 56, 57, 58, 59, 60, 66, 67, 68, 69, 70, 71, 72, 73, 74, 75, 76, 77, 78, 79, 80, 81, 82, 83, 84] (by decide +kernel) (by decide +kernel)
set_option maxRecDepth 20000 in
theorem gX8_undo_X2_restore : GoodIn wsX8_undo (wsV RX8 188 RX2 yX2_restore wsX2_restore) := goodIn_app (goodIn_of _ (by decide +kernel)) ggX8_undo_X2_restore
theorem dX8_undo_0 : decode cX8_undo 0 = .ok (.aload_n 0, 1) := by decide +kernel
theorem dX8_undo_1 : decode cX8_undo 1 = .ok (.getfield 19, 3) := by decide +kernel
theorem dX8_undo_4 : decode cX8_undo 4 = .ok (.invokevirtual 178, 3) := by decide +kernel
theorem dX8_undo_7 : decode cX8_undo 7 = .ok (.ifCond .ne 6, 3) := by decide +kernel
theorem dX8_undo_10 : decode cX8_undo 10 = .ok (.bipush (-12), 2) := by decide +kernel
theorem dX8_undo_12 : decode cX8_undo 12 = .ok (.ireturn, 1) := by decide +kernel
theorem dX8_undo_13 : decode cX8_undo 13 = .ok (.aload_n 0, 1) := by decide +kernel
theorem dX8_undo_14 : decode cX8_undo 14 = .ok (.getfield 19, 3) := by decide +kernel
theorem dX8_undo_17 : decode cX8_undo 17 = .ok (.aload_n 0, 1) := by decide +kernel
theorem dX8_undo_18 : decode cX8_undo 18 = .ok (.getfield 12, 3) := by decide +kernel
theorem dX8_undo_21 : decode cX8_undo 21 = .ok (.invokevirtual 188, 3) := by decide +kernel
theorem dX8_undo_24 : decode cX8_undo 24 = .ok (.aload_n 0, 1) := by decide +kernel
theorem dX8_undo_25 : decode cX8_undo 25 = .ok (.getfield 19, 3) := by decide +kernel
theorem dX8_undo_28 : decode cX8_undo 28 = .ok (.invokevirtual 178, 3) := by decide +kernel
theorem dX8_undo_31 : decode cX8_undo 31 = .ok (.ireturn, 1) := by decide +kernel
set_option maxRecDepth 20000 in
theorem ggX8_type_X7_length : GoodIn wsX8_type wsX7_length := goodIn_r _ [6, 7, 24, 25] (by decide +kernel) (by decide +kernel)
set_option maxRecDepth 20000 in
theorem gX8_type_X7_length : GoodIn wsX8_type (wsV RX8 179 RX7 yX7_length wsX7_length) := goodIn_app (goodIn_of _ (by decide +kernel)) ggX8_type_X7_length
set_option maxRecDepth 20000 in
theorem ggX8_type_X7_append : GoodIn wsX8_type wsX7_append := goodIn_r _ [11, 12, 7, 13, 14, 15, 16, 17, 18, 24, 25, 26] (by decide +kernel) (by decide +kernel)
set_option maxRecDepth 20000 in
theorem gX8_type_X7_append : GoodIn wsX8_type (wsV RX8 191 RX7 yX7_append wsX7_append) := goodIn_app (goodIn_of _ (by decide +kernel)) ggX8_type_X7_append
theorem dX8_type_0 : decode cX8_type 0 = .ok (.iload_n 1, 1) := by decide +kernel
theorem dX8_type_1 : decode cX8_type 1 = .ok (.bipush 32, 2) := by decide +kernel
theorem dX8_type_3 : decode cX8_type 3 = .ok (.if_icmp .lt 9, 3) := by decide +kernel
theorem dX8_type_6 : decode cX8_type 6 = .ok (.iload_n 1, 1) := by decide +kernel
theorem dX8_type_7 : decode cX8_type 7 = .ok (.bipush 126, 2) := by decide +kernel
theorem dX8_type_9 : decode cX8_type 9 = .ok (.if_icmp .le 6, 3) := by decide +kernel
theorem dX8_type_12 : decode cX8_type 12 = .ok (.bipush (-11), 2) := by decide +kernel
theorem dX8_type_14 : decode cX8_type 14 = .ok (.ireturn, 1) := by decide +kernel
theorem dX8_type_15 : decode cX8_type 15 = .ok (.aload_n 0, 1) := by decide +kernel
theorem dX8_type_16 : decode cX8_type 16 = .ok (.getfield 35, 3) := by decide +kernel
theorem dX8_type_19 : decode cX8_type 19 = .ok (.invokevirtual 179, 3) := by decide +kernel
theorem dX8_type_22 : decode cX8_type 22 = .ok (.bipush 60, 2) := by decide +kernel
theorem dX8_type_24 : decode cX8_type 24 = .ok (.if_icmp .lt 6, 3) := by decide +kernel
theorem dX8_type_27 : decode cX8_type 27 = .ok (.bipush (-13), 2) := by decide +kernel
theorem dX8_type_29 : decode cX8_type 29 = .ok (.ireturn, 1) := by decide +kernel
theorem dX8_type_30 : decode cX8_type 30 = .ok (.aload_n 0, 1) := by decide +kernel
theorem dX8_type_31 : decode cX8_type 31 = .ok (.getfield 35, 3) := by decide +kernel
theorem dX8_type_34 : decode cX8_type 34 = .ok (.iload_n 1, 1) := by decide +kernel
theorem dX8_type_35 : decode cX8_type 35 = .ok (.invokevirtual 191, 3) := by decide +kernel
theorem dX8_type_38 : decode cX8_type 38 = .ok (.ireturn, 1) := by decide +kernel
set_option maxRecDepth 20000 in
theorem ggX8_clearText_X7_empty : GoodIn wsX8_clearText wsX7_empty := goodIn_r _ [6, 7, 13, 14] (by decide +kernel) (by decide +kernel)
set_option maxRecDepth 20000 in
theorem gX8_clearText_X7_empty : GoodIn wsX8_clearText (wsV RX8 194 RX7 yX7_empty wsX7_empty) := goodIn_app (goodIn_of _ (by decide +kernel)) ggX8_clearText_X7_empty
theorem dX8_clearText_0 : decode cX8_clearText 0 = .ok (.aload_n 0, 1) := by decide +kernel
theorem dX8_clearText_1 : decode cX8_clearText 1 = .ok (.getfield 35, 3) := by decide +kernel
theorem dX8_clearText_4 : decode cX8_clearText 4 = .ok (.invokevirtual 194, 3) := by decide +kernel
theorem dX8_clearText_7 : decode cX8_clearText 7 = .ok (.ireturn, 1) := by decide +kernel
set_option maxRecDepth 20000 in
theorem ggX8_fault_X8_isBit : GoodIn wsX8_fault wsX8_isBit := goodIn_r _ [5] (by decide +kernel) (by decide +kernel)
set_option maxRecDepth 20000 in
theorem gX8_fault_X8_isBit : GoodIn wsX8_fault (va_wsS RX8 48 yX8_isBit wsX8_isBit) := goodIn_app (goodIn_of _ (by decide +kernel)) ggX8_fault_X8_isBit
set_option maxRecDepth 20000 in
theorem ggX8_fault_X4_start : GoodIn wsX8_fault wsX4_start := goodIn_r _ [10, 11, 12, 13, 14, 15, 16, 17, 18, 19, 20, 21, 22, 23, 24, 25, 26, 27, 28, 29, 30, 31, 32, 33, 34, 35, 36, 37, 38, 39, 40, 41, 42, 43, 44, 9, 45, 46, 47, 48, 49, 50, 51, 52, 53, 54, 55, 56, 57, 58, 59, 60, 61, 62, 63, 64, 65, 66, 67, 68, 69, 70, 71, 72, 73, 74, 75, 76, 77, 78, 79, 80, 81, 82, 83, 84, 85, 86, 87, 102, 103, 104, 105, 106, 107, 108, 109, 110, 111, 112, 113] (by decide +kernel) (by decide +kernel)
set_option maxRecDepth 20000 in
theorem gX8_fault_X4_start : GoodIn wsX8_fault (wsV RX8 197 RX4 yX4_start wsX4_start) := goodIn_app (goodIn_of _ (by decide +kernel)) ggX8_fault_X4_start
set_option maxRecDepth 20000 in
theorem ggX8_fault_X4_hasFault : GoodIn wsX8_fault wsX4_hasFault := goodIn_r _ [72, 15, 102, 103, 104, 105, 106, 107] (by decide +kernel) (by decide +kernel)
set_option maxRecDepth 20000 in
theorem gX8_fault_X4_hasFault : GoodIn wsX8_fault (wsV RX8 200 RX4 yX4_hasFault wsX4_hasFault) := goodIn_app (goodIn_of _ (by decide +kernel)) ggX8_fault_X4_hasFault
set_option maxRecDepth 20000 in
theorem ggX8_fault_X4_faultPlace : GoodIn wsX8_fault wsX4_faultPlace := goodIn_r _ [92, 14, 102, 103, 104, 105, 106, 107] (by decide +kernel) (by decide +kernel)
set_option maxRecDepth 20000 in
theorem gX8_fault_X4_faultPlace : GoodIn wsX8_fault (wsV RX8 203 RX4 yX4_faultPlace wsX4_faultPlace) := goodIn_app (goodIn_of _ (by decide +kernel)) ggX8_fault_X4_faultPlace
set_option maxRecDepth 20000 in
theorem ggX8_fault_X4_faultReason : GoodIn wsX8_fault wsX4_faultReason := goodIn_r _ [96, 15, 102, 103, 104, 105, 106, 107] (by decide +kernel) (by decide +kernel)
set_option maxRecDepth 20000 in
theorem gX8_fault_X4_faultReason : GoodIn wsX8_fault (wsV RX8 206 RX4 yX4_faultReason wsX4_faultReason) := goodIn_app (goodIn_of _ (by decide +kernel)) ggX8_fault_X4_faultReason
theorem dX8_fault_0 : decode cX8_fault 0 = .ok (.iload_n 1, 1) := by decide +kernel
theorem dX8_fault_1 : decode cX8_fault 1 = .ok (.invokestatic 48, 3) := by decide +kernel
theorem dX8_fault_4 : decode cX8_fault 4 = .ok (.ifCond .ne 6, 3) := by decide +kernel
theorem dX8_fault_7 : decode cX8_fault 7 = .ok (.bipush (-11), 2) := by decide +kernel
theorem dX8_fault_9 : decode cX8_fault 9 = .ok (.ireturn, 1) := by decide +kernel
theorem dX8_fault_10 : decode cX8_fault 10 = .ok (.aload_n 0, 1) := by decide +kernel
theorem dX8_fault_11 : decode cX8_fault 11 = .ok (.getfield 44, 3) := by decide +kernel
theorem dX8_fault_14 : decode cX8_fault 14 = .ok (.invokevirtual 197, 3) := by decide +kernel
theorem dX8_fault_17 : decode cX8_fault 17 = .ok (.aload_n 0, 1) := by decide +kernel
theorem dX8_fault_18 : decode cX8_fault 18 = .ok (.getfield 44, 3) := by decide +kernel
theorem dX8_fault_21 : decode cX8_fault 21 = .ok (.invokevirtual 200, 3) := by decide +kernel
theorem dX8_fault_24 : decode cX8_fault 24 = .ok (.ifCond .ne 6, 3) := by decide +kernel
theorem dX8_fault_27 : decode cX8_fault 27 = .ok (.bipush (-14), 2) := by decide +kernel
theorem dX8_fault_29 : decode cX8_fault 29 = .ok (.ireturn, 1) := by decide +kernel
theorem dX8_fault_30 : decode cX8_fault 30 = .ok (.iload_n 1, 1) := by decide +kernel
theorem dX8_fault_31 : decode cX8_fault 31 = .ok (.ifCond .ne 13, 3) := by decide +kernel
theorem dX8_fault_34 : decode cX8_fault 34 = .ok (.aload_n 0, 1) := by decide +kernel
theorem dX8_fault_35 : decode cX8_fault 35 = .ok (.getfield 44, 3) := by decide +kernel
theorem dX8_fault_38 : decode cX8_fault 38 = .ok (.invokevirtual 203, 3) := by decide +kernel
theorem dX8_fault_41 : decode cX8_fault 41 = .ok (.goto 10, 3) := by decide +kernel
theorem dX8_fault_44 : decode cX8_fault 44 = .ok (.aload_n 0, 1) := by decide +kernel
theorem dX8_fault_45 : decode cX8_fault 45 = .ok (.getfield 44, 3) := by decide +kernel
theorem dX8_fault_48 : decode cX8_fault 48 = .ok (.invokevirtual 206, 3) := by decide +kernel
theorem dX8_fault_51 : decode cX8_fault 51 = .ok (.ireturn, 1) := by decide +kernel
set_option maxRecDepth 20000 in
theorem ggX8_read_X8_isBit : GoodIn wsX8_read wsX8_isBit := goodIn_r _ [8] (by decide +kernel) (by decide +kernel)
set_option maxRecDepth 20000 in
theorem gX8_read_X8_isBit : GoodIn wsX8_read (va_wsS RX8 48 yX8_isBit wsX8_isBit) := goodIn_app (goodIn_of _ (by decide +kernel)) ggX8_read_X8_isBit
set_option maxRecDepth 20000 in
theorem ggX8_read_X4_start : GoodIn wsX8_read wsX4_start := goodIn_r _ [13, 14, 15, 16, 17, 18, 19, 20, 21, 22, 23, 24, 25, 26, 27, 28, 29, 30, 31, 32, 33, 34, 35, 36, 37, 38, 39, 40, 41, 42, 43, 44, 45, 46, 47, 12, 48, 49, 50, 51, 52, 53, 54, 55, 56, 57, 58, 59, 60, 61, 62, 63, 64, 65, 66, 67, 68, 69, 70, 71, 72, 73, 74, 75, 76, 77, 78, 79, 80, 81, 82, 83, 84, 85, 86, 87, 88, 89, 90, 238, 239, 240, 241, 242, 243, 244, 245, 246, 247, 248, 249] (by decide +kernel) (by decide +kernel)
set_option maxRecDepth 20000 in
theorem gX8_read_X4_start : GoodIn wsX8_read (wsV RX8 197 RX4 yX4_start wsX4_start) := goodIn_app (goodIn_of _ (by decide +kernel)) ggX8_read_X4_start
set_option maxRecDepth 20000 in
theorem ggX8_read_X4_hasFault : GoodIn wsX8_read wsX4_hasFault := goodIn_r _ [75, 18, 238, 239, 240, 241, 242, 243] (by decide +kernel) (by decide +kernel)
set_option maxRecDepth 20000 in
theorem gX8_read_X4_hasFault : GoodIn wsX8_read (wsV RX8 200 RX4 yX4_hasFault wsX4_hasFault) := goodIn_app (goodIn_of _ (by decide +kernel)) ggX8_read_X4_hasFault
set_option maxRecDepth 20000 in
theorem ggX8_read_X4_cells : GoodIn wsX8_read wsX4_cells := goodIn_r _ [95, 15, 238, 239, 240, 241, 242, 243] (by decide +kernel) (by decide +kernel)
set_option maxRecDepth 20000 in
theorem gX8_read_X4_cells : GoodIn wsX8_read (wsV RX8 209 RX4 yX4_cells wsX4_cells) := goodIn_app (goodIn_of _ (by decide +kernel)) ggX8_read_X4_cells
set_option maxRecDepth 20000 in
theorem ggX8_read_X6_drawer : GoodIn wsX8_read wsX6_drawer := goodIn_r _ [100, 101, 102, 250, 251, 252, 253, 254, 255] (by decide +kernel) (by decide +kernel)
set_option maxRecDepth 20000 in
theorem gX8_read_X6_drawer : GoodIn wsX8_read (wsV RX8 55 RX6 yX6_drawer wsX6_drawer) := goodIn_app (goodIn_of _ (by decide +kernel)) ggX8_read_X6_drawer
set_option maxRecDepth 20000 in
theorem ggX8_read_X0_width : GoodIn wsX8_read wsX0_width := goodIn_r _ [107, 108, 256, 257, 258, 259] (by decide +kernel) (by decide +kernel)
set_option maxRecDepth 20000 in
theorem gX8_read_X0_width : GoodIn wsX8_read (wsV RX8 172 RX0 yX0_width wsX0_width) := goodIn_app (goodIn_of _ (by decide +kernel)) ggX8_read_X0_width
set_option maxRecDepth 20000 in
theorem ggX8_read_X2_keep : GoodIn wsX8_read wsX2_keep := goodIn_r _ [113, 114, 115, 116, 117, 118, 119, 120, 121, 122, 123, 124, 125, 99, 126, 101, 102, 127, 128, 129, 130, 131, 132, 133, 106, 134, 135, 136, 108, 137, 138, 139, 140, 31, 141, 33, 142, 42, 43, 44, 143, 144, 145, 23, 146, 25, 26, 27, 147, 148, 260, 261, 262, 263, 264, 250, 251, 252, 253, 254, 255, 256, 257, 258, 259, 247, 244, 245, 246] (by decide +kernel) (by decide +kernel)
set_option maxRecDepth 20000 in
theorem gX8_read_X2_keep : GoodIn wsX8_read (wsV RX8 52 RX2 yX2_keep wsX2_keep) := goodIn_app (goodIn_of _ (by decide +kernel)) ggX8_read_X2_keep
set_option maxRecDepth 20000 in
theorem ggX8_read_X0_example : GoodIn wsX8_read wsX0_example := goodIn_r _ [152, 136, 256, 257, 258, 259] (by decide +kernel) (by decide +kernel)
set_option maxRecDepth 20000 in
theorem gX8_read_X0_example : GoodIn wsX8_read (wsV RX8 101 RX0 yX0_example wsX0_example) := goodIn_app (goodIn_of _ (by decide +kernel)) ggX8_read_X0_example
set_option maxRecDepth 20000 in
theorem ggX8_read_X4_example : GoodIn wsX8_read wsX4_example := goodIn_r _ [156, 14, 238, 239, 240, 241, 242, 243] (by decide +kernel) (by decide +kernel)
set_option maxRecDepth 20000 in
theorem gX8_read_X4_example : GoodIn wsX8_read (wsV RX8 212 RX4 yX4_example wsX4_example) := goodIn_app (goodIn_of _ (by decide +kernel)) ggX8_read_X4_example
set_option maxRecDepth 20000 in
theorem ggX8_read_X1_copyFrom : GoodIn wsX8_read wsX1_copyFrom := goodIn_r _ [146, 25, 26, 27, 147, 139, 140, 31, 141, 33, 142, 42, 43, 44, 244, 245, 246, 247] (by decide +kernel) (by decide +kernel)
set_option maxRecDepth 20000 in
theorem gX8_read_X1_copyFrom : GoodIn wsX8_read (wsV RX8 213 RX1 yX1_copyFrom wsX1_copyFrom) := goodIn_app (goodIn_of _ (by decide +kernel)) ggX8_read_X1_copyFrom
set_option maxRecDepth 20000 in
theorem ggX8_read_X5_find : GoodIn wsX8_read wsX5_find := goodIn_r _ [162, 163, 164, 165, 166, 167, 168, 161, 169, 170, 171, 172, 29, 30, 31, 32, 33, 173, 174, 175, 99, 176, 101, 102, 177, 150, 151, 106, 152, 136, 178, 179, 180, 181, 182, 183, 184, 185, 108, 186, 187, 188, 189, 129, 190, 191, 192, 23, 193, 25, 194, 42, 43, 44, 195, 196, 197, 198, 26, 199, 69, 70, 71, 200, 97, 98, 100, 201, 202, 203, 204, 137, 205, 206, 207, 208, 209, 210, 211, 212, 213, 214, 215, 216, 217, 218, 219, 220, 221, 135, 222, 223, 224, 225, 226, 227, 228, 229, 230, 231, 27, 232, 265, 266, 267, 268, 269, 270, 247, 250, 251, 252, 253, 254, 255, 256, 257, 258, 259, 244, 245, 246] (by decide +kernel) (by decide +kernel)
set_option maxRecDepth 20000 in
theorem gX8_read_X5_find : GoodIn wsX8_read (wsV RX8 127 RX5 yX5_find wsX5_find) := goodIn_app (goodIn_of _ (by decide +kernel)) ggX8_read_X5_find
theorem dX8_read_0 : decode cX8_read 0 = .ok (.iload_n 1, 1) := by decide +kernel
theorem dX8_read_1 : decode cX8_read 1 = .ok (.invokestatic 48, 3) := by decide +kernel
theorem dX8_read_4 : decode cX8_read 4 = .ok (.ifCond .ne 6, 3) := by decide +kernel
theorem dX8_read_7 : decode cX8_read 7 = .ok (.bipush (-11), 2) := by decide +kernel
theorem dX8_read_9 : decode cX8_read 9 = .ok (.ireturn, 1) := by decide +kernel
theorem dX8_read_10 : decode cX8_read 10 = .ok (.aload_n 0, 1) := by decide +kernel
theorem dX8_read_11 : decode cX8_read 11 = .ok (.getfield 44, 3) := by decide +kernel
theorem dX8_read_14 : decode cX8_read 14 = .ok (.invokevirtual 197, 3) := by decide +kernel
theorem dX8_read_17 : decode cX8_read 17 = .ok (.aload_n 0, 1) := by decide +kernel
theorem dX8_read_18 : decode cX8_read 18 = .ok (.getfield 44, 3) := by decide +kernel
theorem dX8_read_21 : decode cX8_read 21 = .ok (.invokevirtual 200, 3) := by decide +kernel
theorem dX8_read_24 : decode cX8_read 24 = .ok (.ifCond .ne 24, 3) := by decide +kernel
theorem dX8_read_27 : decode cX8_read 27 = .ok (.aload_n 0, 1) := by decide +kernel
theorem dX8_read_28 : decode cX8_read 28 = .ok (.getfield 44, 3) := by decide +kernel
theorem dX8_read_31 : decode cX8_read 31 = .ok (.invokevirtual 209, 3) := by decide +kernel
theorem dX8_read_34 : decode cX8_read 34 = .ok (.aload_n 0, 1) := by decide +kernel
theorem dX8_read_35 : decode cX8_read 35 = .ok (.getfield 12, 3) := by decide +kernel
theorem dX8_read_38 : decode cX8_read 38 = .ok (.iload_n 1, 1) := by decide +kernel
theorem dX8_read_39 : decode cX8_read 39 = .ok (.invokevirtual 55, 3) := by decide +kernel
theorem dX8_read_42 : decode cX8_read 42 = .ok (.invokevirtual 172, 3) := by decide +kernel
theorem dX8_read_45 : decode cX8_read 45 = .ok (.if_icmp .le 6, 3) := by decide +kernel
theorem dX8_read_48 : decode cX8_read 48 = .ok (.bipush (-12), 2) := by decide +kernel
theorem dX8_read_50 : decode cX8_read 50 = .ok (.ireturn, 1) := by decide +kernel
theorem dX8_read_51 : decode cX8_read 51 = .ok (.aload_n 0, 1) := by decide +kernel
theorem dX8_read_52 : decode cX8_read 52 = .ok (.getfield 19, 3) := by decide +kernel
theorem dX8_read_55 : decode cX8_read 55 = .ok (.aload_n 0, 1) := by decide +kernel
theorem dX8_read_56 : decode cX8_read 56 = .ok (.getfield 12, 3) := by decide +kernel
theorem dX8_read_59 : decode cX8_read 59 = .ok (.invokevirtual 52, 3) := by decide +kernel
theorem dX8_read_62 : decode cX8_read 62 = .ok (.aload_n 0, 1) := by decide +kernel
theorem dX8_read_63 : decode cX8_read 63 = .ok (.getfield 12, 3) := by decide +kernel
theorem dX8_read_66 : decode cX8_read 66 = .ok (.iload_n 1, 1) := by decide +kernel
theorem dX8_read_67 : decode cX8_read 67 = .ok (.invokevirtual 55, 3) := by decide +kernel
theorem dX8_read_70 : decode cX8_read 70 = .ok (.invokevirtual 101, 3) := by decide +kernel
theorem dX8_read_73 : decode cX8_read 73 = .ok (.aload_n 0, 1) := by decide +kernel
theorem dX8_read_74 : decode cX8_read 74 = .ok (.getfield 44, 3) := by decide +kernel
theorem dX8_read_77 : decode cX8_read 77 = .ok (.invokevirtual 212, 3) := by decide +kernel
theorem dX8_read_80 : decode cX8_read 80 = .ok (.invokevirtual 213, 3) := by decide +kernel
theorem dX8_read_83 : decode cX8_read 83 = .ok (.aload_n 0, 1) := by decide +kernel
theorem dX8_read_84 : decode cX8_read 84 = .ok (.getfield 28, 3) := by decide +kernel
theorem dX8_read_87 : decode cX8_read 87 = .ok (.iconst (-1), 1) := by decide +kernel
theorem dX8_read_88 : decode cX8_read 88 = .ok (.invokevirtual 127, 3) := by decide +kernel
theorem dX8_read_91 : decode cX8_read 91 = .ok (.ireturn, 1) := by decide +kernel
theorem dX8_isBit_0 : decode cX8_isBit 0 = .ok (.iload_n 0, 1) := by decide +kernel
theorem dX8_isBit_1 : decode cX8_isBit 1 = .ok (.ifCond .eq 8, 3) := by decide +kernel
theorem dX8_isBit_4 : decode cX8_isBit 4 = .ok (.iload_n 0, 1) := by decide +kernel
theorem dX8_isBit_5 : decode cX8_isBit 5 = .ok (.iconst 1, 1) := by decide +kernel
theorem dX8_isBit_6 : decode cX8_isBit 6 = .ok (.if_icmp .ne 7, 3) := by decide +kernel
theorem dX8_isBit_9 : decode cX8_isBit 9 = .ok (.iconst 1, 1) := by decide +kernel
theorem dX8_isBit_10 : decode cX8_isBit 10 = .ok (.goto 4, 3) := by decide +kernel
theorem dX8_isBit_13 : decode cX8_isBit 13 = .ok (.iconst 0, 1) := by decide +kernel
theorem dX8_isBit_14 : decode cX8_isBit 14 = .ok (.ireturn, 1) := by decide +kernel
theorem dX8_isEntry_0 : decode cX8_isEntry 0 = .ok (.iload_n 0, 1) := by decide +kernel
theorem dX8_isEntry_1 : decode cX8_isEntry 1 = .ok (.iconst (-1), 1) := by decide +kernel
theorem dX8_isEntry_2 : decode cX8_isEntry 2 = .ok (.if_icmp .lt 13, 3) := by decide +kernel
theorem dX8_isEntry_5 : decode cX8_isEntry 5 = .ok (.iload_n 0, 1) := by decide +kernel
theorem dX8_isEntry_6 : decode cX8_isEntry 6 = .ok (.bipush 99, 2) := by decide +kernel
theorem dX8_isEntry_8 : decode cX8_isEntry 8 = .ok (.if_icmp .gt 7, 3) := by decide +kernel
theorem dX8_isEntry_11 : decode cX8_isEntry 11 = .ok (.iconst 1, 1) := by decide +kernel
theorem dX8_isEntry_12 : decode cX8_isEntry 12 = .ok (.goto 4, 3) := by decide +kernel
theorem dX8_isEntry_15 : decode cX8_isEntry 15 = .ok (.iconst 0, 1) := by decide +kernel
theorem dX8_isEntry_16 : decode cX8_isEntry 16 = .ok (.ireturn, 1) := by decide +kernel
set_option maxRecDepth 20000 in
theorem ggX8_isCell_X8_isBit : GoodIn wsX8_isCell wsX8_isBit := goodIn_r _ [5] (by decide +kernel) (by decide +kernel)
set_option maxRecDepth 20000 in
theorem gX8_isCell_X8_isBit : GoodIn wsX8_isCell (va_wsS RX8 48 yX8_isBit wsX8_isBit) := goodIn_app (goodIn_of _ (by decide +kernel)) ggX8_isCell_X8_isBit
set_option maxRecDepth 20000 in
theorem ggX8_isCell_X6_drawer : GoodIn wsX8_isCell wsX6_drawer := goodIn_r _ [10, 11, 12, 24, 25, 26, 27, 28, 29] (by decide +kernel) (by decide +kernel)
set_option maxRecDepth 20000 in
theorem gX8_isCell_X6_drawer : GoodIn wsX8_isCell (wsV RX8 55 RX6 yX6_drawer wsX6_drawer) := goodIn_app (goodIn_of _ (by decide +kernel)) ggX8_isCell_X6_drawer
set_option maxRecDepth 20000 in
theorem ggX8_isCell_X0_hasColumn : GoodIn wsX8_isCell wsX0_hasColumn := goodIn_r _ [17, 18, 30, 31, 32, 33] (by decide +kernel) (by decide +kernel)
set_option maxRecDepth 20000 in
theorem gX8_isCell_X0_hasColumn : GoodIn wsX8_isCell (wsV RX8 217 RX0 yX0_hasColumn wsX0_hasColumn) := goodIn_app (goodIn_of _ (by decide +kernel)) ggX8_isCell_X0_hasColumn
theorem dX8_isCell_0 : decode cX8_isCell 0 = .ok (.iload_n 1, 1) := by decide +kernel
theorem dX8_isCell_1 : decode cX8_isCell 1 = .ok (.invokestatic 48, 3) := by decide +kernel
theorem dX8_isCell_4 : decode cX8_isCell 4 = .ok (.ifCond .eq 22, 3) := by decide +kernel
theorem dX8_isCell_7 : decode cX8_isCell 7 = .ok (.aload_n 0, 1) := by decide +kernel
theorem dX8_isCell_8 : decode cX8_isCell 8 = .ok (.getfield 12, 3) := by decide +kernel
theorem dX8_isCell_11 : decode cX8_isCell 11 = .ok (.iload_n 1, 1) := by decide +kernel
theorem dX8_isCell_12 : decode cX8_isCell 12 = .ok (.invokevirtual 55, 3) := by decide +kernel
theorem dX8_isCell_15 : decode cX8_isCell 15 = .ok (.iload_n 2, 1) := by decide +kernel
theorem dX8_isCell_16 : decode cX8_isCell 16 = .ok (.invokevirtual 217, 3) := by decide +kernel
theorem dX8_isCell_19 : decode cX8_isCell 19 = .ok (.ifCond .eq 7, 3) := by decide +kernel
theorem dX8_isCell_22 : decode cX8_isCell 22 = .ok (.iconst 1, 1) := by decide +kernel
theorem dX8_isCell_23 : decode cX8_isCell 23 = .ok (.goto 4, 3) := by decide +kernel
theorem dX8_isCell_26 : decode cX8_isCell 26 = .ok (.iconst 0, 1) := by decide +kernel
theorem dX8_isCell_27 : decode cX8_isCell 27 = .ok (.ireturn, 1) := by decide +kernel
set_option maxRecDepth 20000 in
theorem ggX8_isPlace_X8_isCell : GoodIn wsX8_isPlace wsX8_isCell := goodIn_r _ [6, 1, 7, 8, 5, 9, 10, 11, 12, 13, 14, 15, 16, 17, 18, 19, 20, 21, 22, 28, 29, 30, 31, 32, 33, 34, 35, 36, 37, 38, 39, 40, 41, 42] (by decide +kernel) (by decide +kernel)
set_option maxRecDepth 20000 in
theorem gX8_isPlace_X8_isCell : GoodIn wsX8_isPlace (wsV RX8 94 RX8 yX8_isCell wsX8_isCell) := goodIn_app (goodIn_of _ (by decide +kernel)) ggX8_isPlace_X8_isCell
set_option maxRecDepth 20000 in
theorem ggX8_isPlace_X6_drawer : GoodIn wsX8_isPlace wsX6_drawer := goodIn_r _ [14, 15, 16, 33, 34, 35, 36, 37, 38] (by decide +kernel) (by decide +kernel)
set_option maxRecDepth 20000 in
theorem gX8_isPlace_X6_drawer : GoodIn wsX8_isPlace (wsV RX8 55 RX6 yX6_drawer wsX6_drawer) := goodIn_app (goodIn_of _ (by decide +kernel)) ggX8_isPlace_X6_drawer
set_option maxRecDepth 20000 in
theorem ggX8_isPlace_X0_hasCard : GoodIn wsX8_isPlace wsX0_hasCard := goodIn_r _ [26, 27, 39, 40, 41, 42] (by decide +kernel) (by decide +kernel)
set_option maxRecDepth 20000 in
theorem gX8_isPlace_X0_hasCard : GoodIn wsX8_isPlace (wsV RX8 84 RX0 yX0_hasCard wsX0_hasCard) := goodIn_app (goodIn_of _ (by decide +kernel)) ggX8_isPlace_X0_hasCard
theorem dX8_isPlace_0 : decode cX8_isPlace 0 = .ok (.aload_n 0, 1) := by decide +kernel
theorem dX8_isPlace_1 : decode cX8_isPlace 1 = .ok (.iload_n 1, 1) := by decide +kernel
theorem dX8_isPlace_2 : decode cX8_isPlace 2 = .ok (.iload_n 3, 1) := by decide +kernel
theorem dX8_isPlace_3 : decode cX8_isPlace 3 = .ok (.invokevirtual 94, 3) := by decide +kernel
theorem dX8_isPlace_6 : decode cX8_isPlace 6 = .ok (.ifCond .eq 22, 3) := by decide +kernel
theorem dX8_isPlace_9 : decode cX8_isPlace 9 = .ok (.aload_n 0, 1) := by decide +kernel
theorem dX8_isPlace_10 : decode cX8_isPlace 10 = .ok (.getfield 12, 3) := by decide +kernel
theorem dX8_isPlace_13 : decode cX8_isPlace 13 = .ok (.iload_n 1, 1) := by decide +kernel
theorem dX8_isPlace_14 : decode cX8_isPlace 14 = .ok (.invokevirtual 55, 3) := by decide +kernel
theorem dX8_isPlace_17 : decode cX8_isPlace 17 = .ok (.iload_n 2, 1) := by decide +kernel
theorem dX8_isPlace_18 : decode cX8_isPlace 18 = .ok (.invokevirtual 84, 3) := by decide +kernel
theorem dX8_isPlace_21 : decode cX8_isPlace 21 = .ok (.ifCond .eq 7, 3) := by decide +kernel
theorem dX8_isPlace_24 : decode cX8_isPlace 24 = .ok (.iconst 1, 1) := by decide +kernel
theorem dX8_isPlace_25 : decode cX8_isPlace 25 = .ok (.goto 4, 3) := by decide +kernel
theorem dX8_isPlace_28 : decode cX8_isPlace 28 = .ok (.iconst 0, 1) := by decide +kernel
theorem dX8_isPlace_29 : decode cX8_isPlace 29 = .ok (.ireturn, 1) := by decide +kernel
set_option maxRecDepth 20000 in
theorem ggX8_isContent_X8_greatestFirst : GoodIn wsX8_isContent wsX8_greatestFirst := goodIn_r _ [4] (by decide +kernel) (by decide +kernel)
set_option maxRecDepth 20000 in
theorem gX8_isContent_X8_greatestFirst : GoodIn wsX8_isContent (va_wsS RX8 220 yX8_greatestFirst wsX8_greatestFirst) := goodIn_app (goodIn_of _ (by decide +kernel)) ggX8_isContent_X8_greatestFirst
theorem dX8_isContent_0 : decode cX8_isContent 0 = .ok (.iload_n 0, 1) := by decide +kernel
theorem dX8_isContent_1 : decode cX8_isContent 1 = .ok (.ifCond .lt 21, 3) := by decide +kernel
theorem dX8_isContent_4 : decode cX8_isContent 4 = .ok (.iload_n 0, 1) := by decide +kernel
theorem dX8_isContent_5 : decode cX8_isContent 5 = .ok (.bipush 10, 2) := by decide +kernel
theorem dX8_isContent_7 : decode cX8_isContent 7 = .ok (.if_icmp .gt 15, 3) := by decide +kernel
theorem dX8_isContent_10 : decode cX8_isContent 10 = .ok (.iload_n 1, 1) := by decide +kernel
theorem dX8_isContent_11 : decode cX8_isContent 11 = .ok (.ifCond .lt 11, 3) := by decide +kernel
theorem dX8_isContent_14 : decode cX8_isContent 14 = .ok (.iload_n 1, 1) := by decide +kernel
theorem dX8_isContent_15 : decode cX8_isContent 15 = .ok (.iload_n 0, 1) := by decide +kernel
theorem dX8_isContent_16 : decode cX8_isContent 16 = .ok (.invokestatic 220, 3) := by decide +kernel
theorem dX8_isContent_19 : decode cX8_isContent 19 = .ok (.if_icmp .le 5, 3) := by decide +kernel
theorem dX8_isContent_22 : decode cX8_isContent 22 = .ok (.iconst 0, 1) := by decide +kernel
theorem dX8_isContent_23 : decode cX8_isContent 23 = .ok (.ireturn, 1) := by decide +kernel
theorem dX8_isContent_24 : decode cX8_isContent 24 = .ok (.iload_n 0, 1) := by decide +kernel
theorem dX8_isContent_25 : decode cX8_isContent 25 = .ok (.bipush 7, 2) := by decide +kernel
theorem dX8_isContent_27 : decode cX8_isContent 27 = .ok (.if_icmp .ne 22, 3) := by decide +kernel
theorem dX8_isContent_30 : decode cX8_isContent 30 = .ok (.iload_n 2, 1) := by decide +kernel
theorem dX8_isContent_31 : decode cX8_isContent 31 = .ok (.iload_n 1, 1) := by decide +kernel
theorem dX8_isContent_32 : decode cX8_isContent 32 = .ok (.if_icmp .lt 13, 3) := by decide +kernel
theorem dX8_isContent_35 : decode cX8_isContent 35 = .ok (.iload_n 2, 1) := by decide +kernel
theorem dX8_isContent_36 : decode cX8_isContent 36 = .ok (.bipush 99, 2) := by decide +kernel
theorem dX8_isContent_38 : decode cX8_isContent 38 = .ok (.if_icmp .gt 7, 3) := by decide +kernel
theorem dX8_isContent_41 : decode cX8_isContent 41 = .ok (.iconst 1, 1) := by decide +kernel
theorem dX8_isContent_42 : decode cX8_isContent 42 = .ok (.goto 16, 3) := by decide +kernel
theorem dX8_isContent_45 : decode cX8_isContent 45 = .ok (.iconst 0, 1) := by decide +kernel
theorem dX8_isContent_46 : decode cX8_isContent 46 = .ok (.goto 12, 3) := by decide +kernel
theorem dX8_isContent_49 : decode cX8_isContent 49 = .ok (.iload_n 2, 1) := by decide +kernel
theorem dX8_isContent_50 : decode cX8_isContent 50 = .ok (.ifCond .ne 7, 3) := by decide +kernel
theorem dX8_isContent_53 : decode cX8_isContent 53 = .ok (.iconst 1, 1) := by decide +kernel
theorem dX8_isContent_54 : decode cX8_isContent 54 = .ok (.goto 4, 3) := by decide +kernel
theorem dX8_isContent_57 : decode cX8_isContent 57 = .ok (.iconst 0, 1) := by decide +kernel
theorem dX8_isContent_58 : decode cX8_isContent 58 = .ok (.ireturn, 1) := by decide +kernel
theorem dX8_greatestFirst_0 : decode cX8_greatestFirst 0 = .ok (.iload_n 0, 1) := by decide +kernel
theorem dX8_greatestFirst_1 : decode cX8_greatestFirst 1 = .ok (.iconst 3, 1) := by decide +kernel
theorem dX8_greatestFirst_2 : decode cX8_greatestFirst 2 = .ok (.if_icmp .ge 5, 3) := by decide +kernel
theorem dX8_greatestFirst_5 : decode cX8_greatestFirst 5 = .ok (.iconst 0, 1) := by decide +kernel
theorem dX8_greatestFirst_6 : decode cX8_greatestFirst 6 = .ok (.ireturn, 1) := by decide +kernel
theorem dX8_greatestFirst_7 : decode cX8_greatestFirst 7 = .ok (.iload_n 0, 1) := by decide +kernel
theorem dX8_greatestFirst_8 : decode cX8_greatestFirst 8 = .ok (.bipush 8, 2) := by decide +kernel
theorem dX8_greatestFirst_10 : decode cX8_greatestFirst 10 = .ok (.if_icmp .ge 8, 3) := by decide +kernel
theorem dX8_greatestFirst_13 : decode cX8_greatestFirst 13 = .ok (.bipush 99, 2) := by decide +kernel
theorem dX8_greatestFirst_15 : decode cX8_greatestFirst 15 = .ok (.goto 4, 3) := by decide +kernel
theorem dX8_greatestFirst_18 : decode cX8_greatestFirst 18 = .ok (.iconst 3, 1) := by decide +kernel
theorem dX8_greatestFirst_19 : decode cX8_greatestFirst 19 = .ok (.ireturn, 1) := by decide +kernel
set_option maxRecDepth 20000 in
theorem ggX8_isAboutRow_X8_isBit : GoodIn wsX8_isAboutRow wsX8_isBit := goodIn_r _ [4] (by decide +kernel) (by decide +kernel)
set_option maxRecDepth 20000 in
theorem gX8_isAboutRow_X8_isBit : GoodIn wsX8_isAboutRow (va_wsS RX8 48 yX8_isBit wsX8_isBit) := goodIn_app (goodIn_of _ (by decide +kernel)) ggX8_isAboutRow_X8_isBit
theorem dX8_isAboutRow_0 : decode cX8_isAboutRow 0 = .ok (.iload_n 0, 1) := by decide +kernel
theorem dX8_isAboutRow_1 : decode cX8_isAboutRow 1 = .ok (.invokestatic 48, 3) := by decide +kernel
theorem dX8_isAboutRow_4 : decode cX8_isAboutRow 4 = .ok (.ifCond .ne 27, 3) := by decide +kernel
theorem dX8_isAboutRow_7 : decode cX8_isAboutRow 7 = .ok (.iload_n 0, 1) := by decide +kernel
theorem dX8_isAboutRow_8 : decode cX8_isAboutRow 8 = .ok (.bipush 10, 2) := by decide +kernel
theorem dX8_isAboutRow_10 : decode cX8_isAboutRow 10 = .ok (.if_icmp .lt 9, 3) := by decide +kernel
theorem dX8_isAboutRow_13 : decode cX8_isAboutRow 13 = .ok (.iload_n 0, 1) := by decide +kernel
theorem dX8_isAboutRow_14 : decode cX8_isAboutRow 14 = .ok (.bipush 18, 2) := by decide +kernel
theorem dX8_isAboutRow_16 : decode cX8_isAboutRow 16 = .ok (.if_icmp .lt 15, 3) := by decide +kernel
theorem dX8_isAboutRow_19 : decode cX8_isAboutRow 19 = .ok (.iload_n 0, 1) := by decide +kernel
theorem dX8_isAboutRow_20 : decode cX8_isAboutRow 20 = .ok (.bipush 20, 2) := by decide +kernel
theorem dX8_isAboutRow_22 : decode cX8_isAboutRow 22 = .ok (.if_icmp .lt 13, 3) := by decide +kernel
theorem dX8_isAboutRow_25 : decode cX8_isAboutRow 25 = .ok (.iload_n 0, 1) := by decide +kernel
theorem dX8_isAboutRow_26 : decode cX8_isAboutRow 26 = .ok (.bipush 24, 2) := by decide +kernel
theorem dX8_isAboutRow_28 : decode cX8_isAboutRow 28 = .ok (.if_icmp .ge 7, 3) := by decide +kernel
theorem dX8_isAboutRow_31 : decode cX8_isAboutRow 31 = .ok (.iconst 1, 1) := by decide +kernel
theorem dX8_isAboutRow_32 : decode cX8_isAboutRow 32 = .ok (.goto 4, 3) := by decide +kernel
theorem dX8_isAboutRow_35 : decode cX8_isAboutRow 35 = .ok (.iconst 0, 1) := by decide +kernel
theorem dX8_isAboutRow_36 : decode cX8_isAboutRow 36 = .ok (.ireturn, 1) := by decide +kernel
theorem dX9_init_0 : decode cX9_init 0 = .ok (.aload_n 0, 1) := by decide +kernel
theorem dX9_init_1 : decode cX9_init 1 = .ok (.invokespecial 1, 3) := by decide +kernel
theorem dX9_init_4 : decode cX9_init 4 = .ok (.aload_n 0, 1) := by decide +kernel
theorem dX9_init_5 : decode cX9_init 5 = .ok (.sipush 130, 3) := by decide +kernel
theorem dX9_init_8 : decode cX9_init 8 = .ok (.newarray .int, 2) := by decide +kernel
theorem dX9_init_10 : decode cX9_init 10 = .ok (.putfield 7, 3) := by decide +kernel
theorem dX9_init_13 : decode cX9_init 13 = .ok (.aload_n 0, 1) := by decide +kernel
theorem dX9_init_14 : decode cX9_init 14 = .ok (.sipush 520, 3) := by decide +kernel
theorem dX9_init_17 : decode cX9_init 17 = .ok (.newarray .int, 2) := by decide +kernel
theorem dX9_init_19 : decode cX9_init 19 = .ok (.putfield 13, 3) := by decide +kernel
theorem dX9_init_22 : decode cX9_init 22 = .ok (.aload_n 0, 1) := by decide +kernel
theorem dX9_init_23 : decode cX9_init 23 = .ok (.bipush 60, 2) := by decide +kernel
theorem dX9_init_25 : decode cX9_init 25 = .ok (.newarray .int, 2) := by decide +kernel
theorem dX9_init_27 : decode cX9_init 27 = .ok (.putfield 16, 3) := by decide +kernel
theorem dX9_init_30 : decode cX9_init 30 = .ok (.aload_n 0, 1) := by decide +kernel
theorem dX9_init_31 : decode cX9_init 31 = .ok (.sipush 144, 3) := by decide +kernel
theorem dX9_init_34 : decode cX9_init 34 = .ok (.newarray .int, 2) := by decide +kernel
theorem dX9_init_36 : decode cX9_init 36 = .ok (.putfield 19, 3) := by decide +kernel
theorem dX9_init_39 : decode cX9_init 39 = .ok (.aload_n 0, 1) := by decide +kernel
theorem dX9_init_40 : decode cX9_init 40 = .ok (.sipush 144, 3) := by decide +kernel
theorem dX9_init_43 : decode cX9_init 43 = .ok (.newarray .int, 2) := by decide +kernel
theorem dX9_init_45 : decode cX9_init 45 = .ok (.putfield 22, 3) := by decide +kernel
theorem dX9_init_48 : decode cX9_init 48 = .ok (.aload_n 0, 1) := by decide +kernel
theorem dX9_init_49 : decode cX9_init 49 = .ok (.bipush 12, 2) := by decide +kernel
theorem dX9_init_51 : decode cX9_init 51 = .ok (.newarray .int, 2) := by decide +kernel
theorem dX9_init_53 : decode cX9_init 53 = .ok (.putfield 25, 3) := by decide +kernel
theorem dX9_init_56 : decode cX9_init 56 = .ok (.aload_n 0, 1) := by decide +kernel
theorem dX9_init_57 : decode cX9_init 57 = .ok (.getfield 7, 3) := by decide +kernel
theorem dX9_init_60 : decode cX9_init 60 = .ok (.iconst 0, 1) := by decide +kernel
theorem dX9_init_61 : decode cX9_init 61 = .ok (.iconst 3, 1) := by decide +kernel
theorem dX9_init_62 : decode cX9_init 62 = .ok (.iastore, 1) := by decide +kernel
theorem dX9_init_63 : decode cX9_init 63 = .ok (.aload_n 0, 1) := by decide +kernel
theorem dX9_init_64 : decode cX9_init 64 = .ok (.getfield 7, 3) := by decide +kernel
theorem dX9_init_67 : decode cX9_init 67 = .ok (.iconst 1, 1) := by decide +kernel
theorem dX9_init_68 : decode cX9_init 68 = .ok (.iconst 3, 1) := by decide +kernel
theorem dX9_init_69 : decode cX9_init 69 = .ok (.iastore, 1) := by decide +kernel
theorem dX9_init_70 : decode cX9_init 70 = .ok (.aload_n 0, 1) := by decide +kernel
theorem dX9_init_71 : decode cX9_init 71 = .ok (.getfield 7, 3) := by decide +kernel
theorem dX9_init_74 : decode cX9_init 74 = .ok (.bipush 125, 2) := by decide +kernel
theorem dX9_init_76 : decode cX9_init 76 = .ok (.iconst (-1), 1) := by decide +kernel
theorem dX9_init_77 : decode cX9_init 77 = .ok (.iastore, 1) := by decide +kernel
theorem dX9_init_78 : decode cX9_init 78 = .ok (.aload_n 0, 1) := by decide +kernel
theorem dX9_init_79 : decode cX9_init 79 = .ok (.getfield 7, 3) := by decide +kernel
theorem dX9_init_82 : decode cX9_init 82 = .ok (.bipush 127, 2) := by decide +kernel
theorem dX9_init_84 : decode cX9_init 84 = .ok (.iconst (-1), 1) := by decide +kernel
theorem dX9_init_85 : decode cX9_init 85 = .ok (.iastore, 1) := by decide +kernel
theorem dX9_init_86 : decode cX9_init 86 = .ok (.aload_n 0, 1) := by decide +kernel
theorem dX9_init_87 : decode cX9_init 87 = .ok (.getfield 7, 3) := by decide +kernel
theorem dX9_init_90 : decode cX9_init 90 = .ok (.sipush 129, 3) := by decide +kernel
theorem dX9_init_93 : decode cX9_init 93 = .ok (.sipush 255, 3) := by decide +kernel
theorem dX9_init_96 : decode cX9_init 96 = .ok (.iastore, 1) := by decide +kernel
theorem dX9_init_97 : decode cX9_init 97 = .ok (.return_, 1) := by decide +kernel
theorem dX9_in_0 : decode cX9_in 0 = .ok (.iload_n 0, 1) := by decide +kernel
theorem dX9_in_1 : decode cX9_in 1 = .ok (.iload_n 1, 1) := by decide +kernel
theorem dX9_in_2 : decode cX9_in 2 = .ok (.if_icmp .lt 12, 3) := by decide +kernel
theorem dX9_in_5 : decode cX9_in 5 = .ok (.iload_n 0, 1) := by decide +kernel
theorem dX9_in_6 : decode cX9_in 6 = .ok (.iload_n 2, 1) := by decide +kernel
theorem dX9_in_7 : decode cX9_in 7 = .ok (.if_icmp .gt 7, 3) := by decide +kernel
theorem dX9_in_10 : decode cX9_in 10 = .ok (.iconst 1, 1) := by decide +kernel
theorem dX9_in_11 : decode cX9_in 11 = .ok (.goto 4, 3) := by decide +kernel
theorem dX9_in_14 : decode cX9_in 14 = .ok (.iconst 0, 1) := by decide +kernel
theorem dX9_in_15 : decode cX9_in 15 = .ok (.ireturn, 1) := by decide +kernel
theorem dX9_changes_0 : decode cX9_changes 0 = .ok (.aload_n 0, 1) := by decide +kernel
theorem dX9_changes_1 : decode cX9_changes 1 = .ok (.getfield 28, 3) := by decide +kernel
theorem dX9_changes_4 : decode cX9_changes 4 = .ok (.iconst 4, 1) := by decide +kernel
theorem dX9_changes_5 : decode cX9_changes 5 = .ok (.if_icmp .ne 44, 3) := by decide +kernel
theorem dX9_changes_8 : decode cX9_changes 8 = .ok (.iconst 0, 1) := by decide +kernel
theorem dX9_changes_9 : decode cX9_changes 9 = .ok (.istore_n 1, 1) := by decide +kernel
theorem dX9_changes_10 : decode cX9_changes 10 = .ok (.iload_n 1, 1) := by decide +kernel
theorem dX9_changes_11 : decode cX9_changes 11 = .ok (.sipush 390, 3) := by decide +kernel
theorem dX9_changes_14 : decode cX9_changes 14 = .ok (.if_icmp .ge 25, 3) := by decide +kernel
theorem dX9_changes_17 : decode cX9_changes 17 = .ok (.aload_n 0, 1) := by decide +kernel
theorem dX9_changes_18 : decode cX9_changes 18 = .ok (.getfield 13, 3) := by decide +kernel
theorem dX9_changes_21 : decode cX9_changes 21 = .ok (.iload_n 1, 1) := by decide +kernel
theorem dX9_changes_22 : decode cX9_changes 22 = .ok (.aload_n 0, 1) := by decide +kernel
theorem dX9_changes_23 : decode cX9_changes 23 = .ok (.getfield 13, 3) := by decide +kernel
theorem dX9_changes_26 : decode cX9_changes 26 = .ok (.iload_n 1, 1) := by decide +kernel
theorem dX9_changes_27 : decode cX9_changes 27 = .ok (.sipush 130, 3) := by decide +kernel
theorem dX9_changes_30 : decode cX9_changes 30 = .ok (.iadd, 1) := by decide +kernel
theorem dX9_changes_31 : decode cX9_changes 31 = .ok (.iaload, 1) := by decide +kernel
theorem dX9_changes_32 : decode cX9_changes 32 = .ok (.iastore, 1) := by decide +kernel
theorem dX9_changes_33 : decode cX9_changes 33 = .ok (.iinc 1 1, 3) := by decide +kernel
theorem dX9_changes_36 : decode cX9_changes 36 = .ok (.goto (-26), 3) := by decide +kernel
theorem dX9_changes_39 : decode cX9_changes 39 = .ok (.aload_n 0, 1) := by decide +kernel
theorem dX9_changes_40 : decode cX9_changes 40 = .ok (.dup, 1) := by decide +kernel
theorem dX9_changes_41 : decode cX9_changes 41 = .ok (.getfield 28, 3) := by decide +kernel
theorem dX9_changes_44 : decode cX9_changes 44 = .ok (.iconst 1, 1) := by decide +kernel
theorem dX9_changes_45 : decode cX9_changes 45 = .ok (.isub, 1) := by decide +kernel
theorem dX9_changes_46 : decode cX9_changes 46 = .ok (.putfield 28, 3) := by decide +kernel
theorem dX9_changes_49 : decode cX9_changes 49 = .ok (.iconst 0, 1) := by decide +kernel
theorem dX9_changes_50 : decode cX9_changes 50 = .ok (.istore_n 1, 1) := by decide +kernel
theorem dX9_changes_51 : decode cX9_changes 51 = .ok (.iload_n 1, 1) := by decide +kernel
theorem dX9_changes_52 : decode cX9_changes 52 = .ok (.sipush 130, 3) := by decide +kernel
theorem dX9_changes_55 : decode cX9_changes 55 = .ok (.if_icmp .ge 30, 3) := by decide +kernel
theorem dX9_changes_58 : decode cX9_changes 58 = .ok (.aload_n 0, 1) := by decide +kernel
theorem dX9_changes_59 : decode cX9_changes 59 = .ok (.getfield 13, 3) := by decide +kernel
theorem dX9_changes_62 : decode cX9_changes 62 = .ok (.sipush 130, 3) := by decide +kernel
theorem dX9_changes_65 : decode cX9_changes 65 = .ok (.aload_n 0, 1) := by decide +kernel
theorem dX9_changes_66 : decode cX9_changes 66 = .ok (.getfield 28, 3) := by decide +kernel
theorem dX9_changes_69 : decode cX9_changes 69 = .ok (.imul, 1) := by decide +kernel
theorem dX9_changes_70 : decode cX9_changes 70 = .ok (.iload_n 1, 1) := by decide +kernel
theorem dX9_changes_71 : decode cX9_changes 71 = .ok (.iadd, 1) := by decide +kernel
theorem dX9_changes_72 : decode cX9_changes 72 = .ok (.aload_n 0, 1) := by decide +kernel
theorem dX9_changes_73 : decode cX9_changes 73 = .ok (.getfield 7, 3) := by decide +kernel
theorem dX9_changes_76 : decode cX9_changes 76 = .ok (.iload_n 1, 1) := by decide +kernel
theorem dX9_changes_77 : decode cX9_changes 77 = .ok (.iaload, 1) := by decide +kernel
theorem dX9_changes_78 : decode cX9_changes 78 = .ok (.iastore, 1) := by decide +kernel
theorem dX9_changes_79 : decode cX9_changes 79 = .ok (.iinc 1 1, 3) := by decide +kernel
theorem dX9_changes_82 : decode cX9_changes 82 = .ok (.goto (-31), 3) := by decide +kernel
theorem dX9_changes_85 : decode cX9_changes 85 = .ok (.aload_n 0, 1) := by decide +kernel
theorem dX9_changes_86 : decode cX9_changes 86 = .ok (.dup, 1) := by decide +kernel
theorem dX9_changes_87 : decode cX9_changes 87 = .ok (.getfield 28, 3) := by decide +kernel
theorem dX9_changes_90 : decode cX9_changes 90 = .ok (.iconst 1, 1) := by decide +kernel
theorem dX9_changes_91 : decode cX9_changes 91 = .ok (.iadd, 1) := by decide +kernel
theorem dX9_changes_92 : decode cX9_changes 92 = .ok (.putfield 28, 3) := by decide +kernel
theorem dX9_changes_95 : decode cX9_changes 95 = .ok (.return_, 1) := by decide +kernel
set_option maxRecDepth 20000 in
theorem ggX9_isDrawer_X9_in : GoodIn wsX9_isDrawer wsX9_in := goodIn_r _ [4] (by decide +kernel) (by decide +kernel)
set_option maxRecDepth 20000 in
theorem gX9_isDrawer_X9_in : GoodIn wsX9_isDrawer (va_wsS RX9 32 yX9_in wsX9_in) := goodIn_app (goodIn_of _ (by decide +kernel)) ggX9_isDrawer_X9_in
theorem dX9_isDrawer_0 : decode cX9_isDrawer 0 = .ok (.iload_n 0, 1) := by decide +kernel
theorem dX9_isDrawer_1 : decode cX9_isDrawer 1 = .ok (.iconst 0, 1) := by decide +kernel
theorem dX9_isDrawer_2 : decode cX9_isDrawer 2 = .ok (.iconst 1, 1) := by decide +kernel
theorem dX9_isDrawer_3 : decode cX9_isDrawer 3 = .ok (.invokestatic 32, 3) := by decide +kernel
theorem dX9_isDrawer_6 : decode cX9_isDrawer 6 = .ok (.ireturn, 1) := by decide +kernel
theorem dX9_isColumn_0 : decode cX9_isColumn 0 = .ok (.iload_n 2, 1) := by decide +kernel
theorem dX9_isColumn_1 : decode cX9_isColumn 1 = .ok (.ifCond .lt 19, 3) := by decide +kernel
theorem dX9_isColumn_4 : decode cX9_isColumn 4 = .ok (.iload_n 2, 1) := by decide +kernel
theorem dX9_isColumn_5 : decode cX9_isColumn 5 = .ok (.aload_n 0, 1) := by decide +kernel
theorem dX9_isColumn_6 : decode cX9_isColumn 6 = .ok (.getfield 7, 3) := by decide +kernel
theorem dX9_isColumn_9 : decode cX9_isColumn 9 = .ok (.iconst 0, 1) := by decide +kernel
theorem dX9_isColumn_10 : decode cX9_isColumn 10 = .ok (.iload_n 1, 1) := by decide +kernel
theorem dX9_isColumn_11 : decode cX9_isColumn 11 = .ok (.iadd, 1) := by decide +kernel
theorem dX9_isColumn_12 : decode cX9_isColumn 12 = .ok (.iaload, 1) := by decide +kernel
theorem dX9_isColumn_13 : decode cX9_isColumn 13 = .ok (.if_icmp .ge 7, 3) := by decide +kernel
theorem dX9_isColumn_16 : decode cX9_isColumn 16 = .ok (.iconst 1, 1) := by decide +kernel
theorem dX9_isColumn_17 : decode cX9_isColumn 17 = .ok (.goto 4, 3) := by decide +kernel
theorem dX9_isColumn_20 : decode cX9_isColumn 20 = .ok (.iconst 0, 1) := by decide +kernel
theorem dX9_isColumn_21 : decode cX9_isColumn 21 = .ok (.ireturn, 1) := by decide +kernel
theorem dX9_isCard_0 : decode cX9_isCard 0 = .ok (.iload_n 2, 1) := by decide +kernel
theorem dX9_isCard_1 : decode cX9_isCard 1 = .ok (.ifCond .lt 19, 3) := by decide +kernel
theorem dX9_isCard_4 : decode cX9_isCard 4 = .ok (.iload_n 2, 1) := by decide +kernel
theorem dX9_isCard_5 : decode cX9_isCard 5 = .ok (.aload_n 0, 1) := by decide +kernel
theorem dX9_isCard_6 : decode cX9_isCard 6 = .ok (.getfield 7, 3) := by decide +kernel
theorem dX9_isCard_9 : decode cX9_isCard 9 = .ok (.iconst 2, 1) := by decide +kernel
theorem dX9_isCard_10 : decode cX9_isCard 10 = .ok (.iload_n 1, 1) := by decide +kernel
theorem dX9_isCard_11 : decode cX9_isCard 11 = .ok (.iadd, 1) := by decide +kernel
theorem dX9_isCard_12 : decode cX9_isCard 12 = .ok (.iaload, 1) := by decide +kernel
theorem dX9_isCard_13 : decode cX9_isCard 13 = .ok (.if_icmp .ge 7, 3) := by decide +kernel
theorem dX9_isCard_16 : decode cX9_isCard 16 = .ok (.iconst 1, 1) := by decide +kernel
theorem dX9_isCard_17 : decode cX9_isCard 17 = .ok (.goto 4, 3) := by decide +kernel
theorem dX9_isCard_20 : decode cX9_isCard 20 = .ok (.iconst 0, 1) := by decide +kernel
theorem dX9_isCard_21 : decode cX9_isCard 21 = .ok (.ireturn, 1) := by decide +kernel
theorem dX9_valueAt_0 : decode cX9_valueAt 0 = .ok (.iconst 4, 1) := by decide +kernel
theorem dX9_valueAt_1 : decode cX9_valueAt 1 = .ok (.bipush 48, 2) := by decide +kernel
theorem dX9_valueAt_3 : decode cX9_valueAt 3 = .ok (.iload_n 0, 1) := by decide +kernel
theorem dX9_valueAt_4 : decode cX9_valueAt 4 = .ok (.imul, 1) := by decide +kernel
theorem dX9_valueAt_5 : decode cX9_valueAt 5 = .ok (.iadd, 1) := by decide +kernel
theorem dX9_valueAt_6 : decode cX9_valueAt 6 = .ok (.iconst 4, 1) := by decide +kernel
theorem dX9_valueAt_7 : decode cX9_valueAt 7 = .ok (.iload_n 1, 1) := by decide +kernel
theorem dX9_valueAt_8 : decode cX9_valueAt 8 = .ok (.imul, 1) := by decide +kernel
theorem dX9_valueAt_9 : decode cX9_valueAt 9 = .ok (.iadd, 1) := by decide +kernel
theorem dX9_valueAt_10 : decode cX9_valueAt 10 = .ok (.iload_n 2, 1) := by decide +kernel
theorem dX9_valueAt_11 : decode cX9_valueAt 11 = .ok (.iadd, 1) := by decide +kernel
theorem dX9_valueAt_12 : decode cX9_valueAt 12 = .ok (.ireturn, 1) := by decide +kernel
theorem dX9_cellAt_0 : decode cX9_cellAt 0 = .ok (.aload_n 0, 1) := by decide +kernel
theorem dX9_cellAt_1 : decode cX9_cellAt 1 = .ok (.getfield 7, 3) := by decide +kernel
theorem dX9_cellAt_4 : decode cX9_cellAt 4 = .ok (.bipush 100, 2) := by decide +kernel
theorem dX9_cellAt_6 : decode cX9_cellAt 6 = .ok (.bipush 12, 2) := by decide +kernel
theorem dX9_cellAt_8 : decode cX9_cellAt 8 = .ok (.iload_n 1, 1) := by decide +kernel
theorem dX9_cellAt_9 : decode cX9_cellAt 9 = .ok (.imul, 1) := by decide +kernel
theorem dX9_cellAt_10 : decode cX9_cellAt 10 = .ok (.iadd, 1) := by decide +kernel
theorem dX9_cellAt_11 : decode cX9_cellAt 11 = .ok (.iconst 3, 1) := by decide +kernel
theorem dX9_cellAt_12 : decode cX9_cellAt 12 = .ok (.iload_n 2, 1) := by decide +kernel
theorem dX9_cellAt_13 : decode cX9_cellAt 13 = .ok (.imul, 1) := by decide +kernel
theorem dX9_cellAt_14 : decode cX9_cellAt 14 = .ok (.iadd, 1) := by decide +kernel
theorem dX9_cellAt_15 : decode cX9_cellAt 15 = .ok (.iload_n 3, 1) := by decide +kernel
theorem dX9_cellAt_16 : decode cX9_cellAt 16 = .ok (.iadd, 1) := by decide +kernel
theorem dX9_cellAt_17 : decode cX9_cellAt 17 = .ok (.iaload, 1) := by decide +kernel
theorem dX9_cellAt_18 : decode cX9_cellAt 18 = .ok (.ireturn, 1) := by decide +kernel
theorem dX9_setsCell_0 : decode cX9_setsCell 0 = .ok (.aload_n 0, 1) := by decide +kernel
theorem dX9_setsCell_1 : decode cX9_setsCell 1 = .ok (.getfield 7, 3) := by decide +kernel
theorem dX9_setsCell_4 : decode cX9_setsCell 4 = .ok (.bipush 100, 2) := by decide +kernel
theorem dX9_setsCell_6 : decode cX9_setsCell 6 = .ok (.bipush 12, 2) := by decide +kernel
theorem dX9_setsCell_8 : decode cX9_setsCell 8 = .ok (.iload_n 1, 1) := by decide +kernel
theorem dX9_setsCell_9 : decode cX9_setsCell 9 = .ok (.imul, 1) := by decide +kernel
theorem dX9_setsCell_10 : decode cX9_setsCell 10 = .ok (.iadd, 1) := by decide +kernel
theorem dX9_setsCell_11 : decode cX9_setsCell 11 = .ok (.iconst 3, 1) := by decide +kernel
theorem dX9_setsCell_12 : decode cX9_setsCell 12 = .ok (.iload_n 2, 1) := by decide +kernel
theorem dX9_setsCell_13 : decode cX9_setsCell 13 = .ok (.imul, 1) := by decide +kernel
theorem dX9_setsCell_14 : decode cX9_setsCell 14 = .ok (.iadd, 1) := by decide +kernel
theorem dX9_setsCell_15 : decode cX9_setsCell 15 = .ok (.iload_n 3, 1) := by decide +kernel
theorem dX9_setsCell_16 : decode cX9_setsCell 16 = .ok (.iastore, 1) := by decide +kernel
theorem dX9_setsCell_17 : decode cX9_setsCell 17 = .ok (.aload_n 0, 1) := by decide +kernel
theorem dX9_setsCell_18 : decode cX9_setsCell 18 = .ok (.getfield 7, 3) := by decide +kernel
theorem dX9_setsCell_21 : decode cX9_setsCell 21 = .ok (.bipush 100, 2) := by decide +kernel
theorem dX9_setsCell_23 : decode cX9_setsCell 23 = .ok (.bipush 12, 2) := by decide +kernel
theorem dX9_setsCell_25 : decode cX9_setsCell 25 = .ok (.iload_n 1, 1) := by decide +kernel
theorem dX9_setsCell_26 : decode cX9_setsCell 26 = .ok (.imul, 1) := by decide +kernel
theorem dX9_setsCell_27 : decode cX9_setsCell 27 = .ok (.iadd, 1) := by decide +kernel
theorem dX9_setsCell_28 : decode cX9_setsCell 28 = .ok (.iconst 3, 1) := by decide +kernel
theorem dX9_setsCell_29 : decode cX9_setsCell 29 = .ok (.iload_n 2, 1) := by decide +kernel
theorem dX9_setsCell_30 : decode cX9_setsCell 30 = .ok (.imul, 1) := by decide +kernel
theorem dX9_setsCell_31 : decode cX9_setsCell 31 = .ok (.iadd, 1) := by decide +kernel
theorem dX9_setsCell_32 : decode cX9_setsCell 32 = .ok (.iconst 1, 1) := by decide +kernel
theorem dX9_setsCell_33 : decode cX9_setsCell 33 = .ok (.iadd, 1) := by decide +kernel
theorem dX9_setsCell_34 : decode cX9_setsCell 34 = .ok (.iload 4, 2) := by decide +kernel
theorem dX9_setsCell_36 : decode cX9_setsCell 36 = .ok (.iastore, 1) := by decide +kernel
theorem dX9_setsCell_37 : decode cX9_setsCell 37 = .ok (.aload_n 0, 1) := by decide +kernel
theorem dX9_setsCell_38 : decode cX9_setsCell 38 = .ok (.getfield 7, 3) := by decide +kernel
theorem dX9_setsCell_41 : decode cX9_setsCell 41 = .ok (.bipush 100, 2) := by decide +kernel
theorem dX9_setsCell_43 : decode cX9_setsCell 43 = .ok (.bipush 12, 2) := by decide +kernel
theorem dX9_setsCell_45 : decode cX9_setsCell 45 = .ok (.iload_n 1, 1) := by decide +kernel
theorem dX9_setsCell_46 : decode cX9_setsCell 46 = .ok (.imul, 1) := by decide +kernel
theorem dX9_setsCell_47 : decode cX9_setsCell 47 = .ok (.iadd, 1) := by decide +kernel
theorem dX9_setsCell_48 : decode cX9_setsCell 48 = .ok (.iconst 3, 1) := by decide +kernel
theorem dX9_setsCell_49 : decode cX9_setsCell 49 = .ok (.iload_n 2, 1) := by decide +kernel
theorem dX9_setsCell_50 : decode cX9_setsCell 50 = .ok (.imul, 1) := by decide +kernel
theorem dX9_setsCell_51 : decode cX9_setsCell 51 = .ok (.iadd, 1) := by decide +kernel
theorem dX9_setsCell_52 : decode cX9_setsCell 52 = .ok (.iconst 2, 1) := by decide +kernel
theorem dX9_setsCell_53 : decode cX9_setsCell 53 = .ok (.iadd, 1) := by decide +kernel
theorem dX9_setsCell_54 : decode cX9_setsCell 54 = .ok (.iload 5, 2) := by decide +kernel
theorem dX9_setsCell_56 : decode cX9_setsCell 56 = .ok (.iastore, 1) := by decide +kernel
theorem dX9_setsCell_57 : decode cX9_setsCell 57 = .ok (.return_, 1) := by decide +kernel
set_option maxRecDepth 20000 in
theorem ggX9_columns_X9_isDrawer : GoodIn wsX9_columns wsX9_isDrawer := goodIn_r _ [5, 6, 7, 4, 8] (by decide +kernel) (by decide +kernel)
set_option maxRecDepth 20000 in
theorem gX9_columns_X9_isDrawer : GoodIn wsX9_columns (va_wsS RX9 36 yX9_isDrawer wsX9_isDrawer) := goodIn_app (goodIn_of _ (by decide +kernel)) ggX9_columns_X9_isDrawer
set_option maxRecDepth 20000 in
theorem ggX9_columns_X9_in : GoodIn wsX9_columns wsX9_in := goodIn_r _ [8] (by decide +kernel) (by decide +kernel)
set_option maxRecDepth 20000 in
theorem gX9_columns_X9_in : GoodIn wsX9_columns (va_wsS RX9 32 yX9_in wsX9_in) := goodIn_app (goodIn_of _ (by decide +kernel)) ggX9_columns_X9_in
set_option maxRecDepth 20000 in
theorem ggX9_columns_X9_changes : GoodIn wsX9_columns wsX9_changes := goodIn_r _ [12, 13, 14, 1, 19, 20, 21, 22, 23, 24, 25, 26, 27, 28, 29, 30, 31] (by decide +kernel) (by decide +kernel)
set_option maxRecDepth 20000 in
theorem gX9_columns_X9_changes : GoodIn wsX9_columns (wsV RX9 40 RX9 yX9_changes wsX9_changes) := goodIn_app (goodIn_of _ (by decide +kernel)) ggX9_columns_X9_changes
set_option maxRecDepth 20000 in
theorem ggX9_columns_X9_setsCell : GoodIn wsX9_columns wsX9_setsCell := goodIn_r _ [18, 1, 19, 20, 21, 22, 23, 24, 25, 26, 27, 28, 29, 30, 31] (by decide +kernel) (by decide +kernel)
set_option maxRecDepth 20000 in
theorem gX9_columns_X9_setsCell : GoodIn wsX9_columns (wsV RX9 43 RX9 yX9_setsCell wsX9_setsCell) := goodIn_app (goodIn_of _ (by decide +kernel)) ggX9_columns_X9_setsCell
theorem dX9_columns_0 : decode cX9_columns 0 = .ok (.iload_n 1, 1) := by decide +kernel
theorem dX9_columns_1 : decode cX9_columns 1 = .ok (.invokestatic 36, 3) := by decide +kernel
theorem dX9_columns_4 : decode cX9_columns 4 = .ok (.ifCond .eq 12, 3) := by decide +kernel
theorem dX9_columns_7 : decode cX9_columns 7 = .ok (.iload_n 2, 1) := by decide +kernel
theorem dX9_columns_8 : decode cX9_columns 8 = .ok (.iconst 1, 1) := by decide +kernel
theorem dX9_columns_9 : decode cX9_columns 9 = .ok (.iconst 4, 1) := by decide +kernel
theorem dX9_columns_10 : decode cX9_columns 10 = .ok (.invokestatic 32, 3) := by decide +kernel
theorem dX9_columns_13 : decode cX9_columns 13 = .ok (.ifCond .ne 6, 3) := by decide +kernel
theorem dX9_columns_16 : decode cX9_columns 16 = .ok (.bipush (-11), 2) := by decide +kernel
theorem dX9_columns_18 : decode cX9_columns 18 = .ok (.ireturn, 1) := by decide +kernel
theorem dX9_columns_19 : decode cX9_columns 19 = .ok (.aload_n 0, 1) := by decide +kernel
theorem dX9_columns_20 : decode cX9_columns 20 = .ok (.invokevirtual 40, 3) := by decide +kernel
theorem dX9_columns_23 : decode cX9_columns 23 = .ok (.aload_n 0, 1) := by decide +kernel
theorem dX9_columns_24 : decode cX9_columns 24 = .ok (.getfield 7, 3) := by decide +kernel
theorem dX9_columns_27 : decode cX9_columns 27 = .ok (.iconst 2, 1) := by decide +kernel
theorem dX9_columns_28 : decode cX9_columns 28 = .ok (.iload_n 1, 1) := by decide +kernel
theorem dX9_columns_29 : decode cX9_columns 29 = .ok (.iadd, 1) := by decide +kernel
theorem dX9_columns_30 : decode cX9_columns 30 = .ok (.iaload, 1) := by decide +kernel
theorem dX9_columns_31 : decode cX9_columns 31 = .ok (.istore_n 3, 1) := by decide +kernel
theorem dX9_columns_32 : decode cX9_columns 32 = .ok (.aload_n 0, 1) := by decide +kernel
theorem dX9_columns_33 : decode cX9_columns 33 = .ok (.getfield 7, 3) := by decide +kernel
theorem dX9_columns_36 : decode cX9_columns 36 = .ok (.iconst 0, 1) := by decide +kernel
theorem dX9_columns_37 : decode cX9_columns 37 = .ok (.iload_n 1, 1) := by decide +kernel
theorem dX9_columns_38 : decode cX9_columns 38 = .ok (.iadd, 1) := by decide +kernel
theorem dX9_columns_39 : decode cX9_columns 39 = .ok (.iload_n 2, 1) := by decide +kernel
theorem dX9_columns_40 : decode cX9_columns 40 = .ok (.iastore, 1) := by decide +kernel
theorem dX9_columns_41 : decode cX9_columns 41 = .ok (.aload_n 0, 1) := by decide +kernel
theorem dX9_columns_42 : decode cX9_columns 42 = .ok (.getfield 7, 3) := by decide +kernel
theorem dX9_columns_45 : decode cX9_columns 45 = .ok (.iconst 2, 1) := by decide +kernel
theorem dX9_columns_46 : decode cX9_columns 46 = .ok (.iload_n 1, 1) := by decide +kernel
theorem dX9_columns_47 : decode cX9_columns 47 = .ok (.iadd, 1) := by decide +kernel
theorem dX9_columns_48 : decode cX9_columns 48 = .ok (.iconst 0, 1) := by decide +kernel
theorem dX9_columns_49 : decode cX9_columns 49 = .ok (.iastore, 1) := by decide +kernel
theorem dX9_columns_50 : decode cX9_columns 50 = .ok (.iconst 0, 1) := by decide +kernel
theorem dX9_columns_51 : decode cX9_columns 51 = .ok (.istore 4, 2) := by decide +kernel
theorem dX9_columns_53 : decode cX9_columns 53 = .ok (.iload 4, 2) := by decide +kernel
theorem dX9_columns_55 : decode cX9_columns 55 = .ok (.iconst 4, 1) := by decide +kernel
theorem dX9_columns_56 : decode cX9_columns 56 = .ok (.if_icmp .ge 19, 3) := by decide +kernel
theorem dX9_columns_59 : decode cX9_columns 59 = .ok (.aload_n 0, 1) := by decide +kernel
theorem dX9_columns_60 : decode cX9_columns 60 = .ok (.iload_n 1, 1) := by decide +kernel
theorem dX9_columns_61 : decode cX9_columns 61 = .ok (.iload 4, 2) := by decide +kernel
theorem dX9_columns_63 : decode cX9_columns 63 = .ok (.iconst 0, 1) := by decide +kernel
theorem dX9_columns_64 : decode cX9_columns 64 = .ok (.iconst 0, 1) := by decide +kernel
theorem dX9_columns_65 : decode cX9_columns 65 = .ok (.iconst 0, 1) := by decide +kernel
theorem dX9_columns_66 : decode cX9_columns 66 = .ok (.invokevirtual 43, 3) := by decide +kernel
theorem dX9_columns_69 : decode cX9_columns 69 = .ok (.iinc 4 1, 3) := by decide +kernel
theorem dX9_columns_72 : decode cX9_columns 72 = .ok (.goto (-19), 3) := by decide +kernel
theorem dX9_columns_75 : decode cX9_columns 75 = .ok (.iload_n 3, 1) := by decide +kernel
theorem dX9_columns_76 : decode cX9_columns 76 = .ok (.ireturn, 1) := by decide +kernel
set_option maxRecDepth 20000 in
theorem ggX9_card_X9_isDrawer : GoodIn wsX9_card wsX9_isDrawer := goodIn_r _ [5, 6, 7, 4, 8] (by decide +kernel) (by decide +kernel)
set_option maxRecDepth 20000 in
theorem gX9_card_X9_isDrawer : GoodIn wsX9_card (va_wsS RX9 36 yX9_isDrawer wsX9_isDrawer) := goodIn_app (goodIn_of _ (by decide +kernel)) ggX9_card_X9_isDrawer
set_option maxRecDepth 20000 in
theorem ggX9_card_X9_in : GoodIn wsX9_card wsX9_in := goodIn_r _ [8] (by decide +kernel) (by decide +kernel)
set_option maxRecDepth 20000 in
theorem gX9_card_X9_in : GoodIn wsX9_card (va_wsS RX9 32 yX9_in wsX9_in) := goodIn_app (goodIn_of _ (by decide +kernel)) ggX9_card_X9_in
set_option maxRecDepth 20000 in
theorem ggX9_card_X9_changes : GoodIn wsX9_card wsX9_changes := goodIn_r _ [12, 13, 14, 1, 18, 19, 20, 21, 22, 23, 24, 25, 26, 27, 28, 29, 30] (by decide +kernel) (by decide +kernel)
set_option maxRecDepth 20000 in
theorem gX9_card_X9_changes : GoodIn wsX9_card (wsV RX9 40 RX9 yX9_changes wsX9_changes) := goodIn_app (goodIn_of _ (by decide +kernel)) ggX9_card_X9_changes
set_option maxRecDepth 20000 in
theorem ggX9_card_X9_valueAt : GoodIn wsX9_card wsX9_valueAt := goodIn_r _ [17] (by decide +kernel) (by decide +kernel)
set_option maxRecDepth 20000 in
theorem gX9_card_X9_valueAt : GoodIn wsX9_card (va_wsS RX9 47 yX9_valueAt wsX9_valueAt) := goodIn_app (goodIn_of _ (by decide +kernel)) ggX9_card_X9_valueAt
theorem dX9_card_0 : decode cX9_card 0 = .ok (.iload_n 1, 1) := by decide +kernel
theorem dX9_card_1 : decode cX9_card 1 = .ok (.invokestatic 36, 3) := by decide +kernel
theorem dX9_card_4 : decode cX9_card 4 = .ok (.ifCond .eq 45, 3) := by decide +kernel
theorem dX9_card_7 : decode cX9_card 7 = .ok (.iload_n 2, 1) := by decide +kernel
theorem dX9_card_8 : decode cX9_card 8 = .ok (.iconst (-1), 1) := by decide +kernel
theorem dX9_card_9 : decode cX9_card 9 = .ok (.bipush 99, 2) := by decide +kernel
theorem dX9_card_11 : decode cX9_card 11 = .ok (.invokestatic 32, 3) := by decide +kernel
theorem dX9_card_14 : decode cX9_card 14 = .ok (.ifCond .eq 35, 3) := by decide +kernel
theorem dX9_card_17 : decode cX9_card 17 = .ok (.iload_n 3, 1) := by decide +kernel
theorem dX9_card_18 : decode cX9_card 18 = .ok (.iconst (-1), 1) := by decide +kernel
theorem dX9_card_19 : decode cX9_card 19 = .ok (.bipush 99, 2) := by decide +kernel
theorem dX9_card_21 : decode cX9_card 21 = .ok (.invokestatic 32, 3) := by decide +kernel
theorem dX9_card_24 : decode cX9_card 24 = .ok (.ifCond .eq 25, 3) := by decide +kernel
theorem dX9_card_27 : decode cX9_card 27 = .ok (.iload 4, 2) := by decide +kernel
theorem dX9_card_29 : decode cX9_card 29 = .ok (.iconst (-1), 1) := by decide +kernel
theorem dX9_card_30 : decode cX9_card 30 = .ok (.bipush 99, 2) := by decide +kernel
theorem dX9_card_32 : decode cX9_card 32 = .ok (.invokestatic 32, 3) := by decide +kernel
theorem dX9_card_35 : decode cX9_card 35 = .ok (.ifCond .eq 14, 3) := by decide +kernel
theorem dX9_card_38 : decode cX9_card 38 = .ok (.iload 5, 2) := by decide +kernel
theorem dX9_card_40 : decode cX9_card 40 = .ok (.iconst (-1), 1) := by decide +kernel
theorem dX9_card_41 : decode cX9_card 41 = .ok (.bipush 99, 2) := by decide +kernel
theorem dX9_card_43 : decode cX9_card 43 = .ok (.invokestatic 32, 3) := by decide +kernel
theorem dX9_card_46 : decode cX9_card 46 = .ok (.ifCond .ne 6, 3) := by decide +kernel
theorem dX9_card_49 : decode cX9_card 49 = .ok (.bipush (-11), 2) := by decide +kernel
theorem dX9_card_51 : decode cX9_card 51 = .ok (.ireturn, 1) := by decide +kernel
theorem dX9_card_52 : decode cX9_card 52 = .ok (.aload_n 0, 1) := by decide +kernel
theorem dX9_card_53 : decode cX9_card 53 = .ok (.getfield 7, 3) := by decide +kernel
theorem dX9_card_56 : decode cX9_card 56 = .ok (.iconst 2, 1) := by decide +kernel
theorem dX9_card_57 : decode cX9_card 57 = .ok (.iload_n 1, 1) := by decide +kernel
theorem dX9_card_58 : decode cX9_card 58 = .ok (.iadd, 1) := by decide +kernel
theorem dX9_card_59 : decode cX9_card 59 = .ok (.iaload, 1) := by decide +kernel
theorem dX9_card_60 : decode cX9_card 60 = .ok (.istore 6, 2) := by decide +kernel
theorem dX9_card_62 : decode cX9_card 62 = .ok (.iload 6, 2) := by decide +kernel
theorem dX9_card_64 : decode cX9_card 64 = .ok (.bipush 12, 2) := by decide +kernel
theorem dX9_card_66 : decode cX9_card 66 = .ok (.if_icmp .ne 6, 3) := by decide +kernel
theorem dX9_card_69 : decode cX9_card 69 = .ok (.bipush (-13), 2) := by decide +kernel
theorem dX9_card_71 : decode cX9_card 71 = .ok (.ireturn, 1) := by decide +kernel
theorem dX9_card_72 : decode cX9_card 72 = .ok (.aload_n 0, 1) := by decide +kernel
theorem dX9_card_73 : decode cX9_card 73 = .ok (.invokevirtual 40, 3) := by decide +kernel
theorem dX9_card_76 : decode cX9_card 76 = .ok (.iload_n 1, 1) := by decide +kernel
theorem dX9_card_77 : decode cX9_card 77 = .ok (.iload 6, 2) := by decide +kernel
theorem dX9_card_79 : decode cX9_card 79 = .ok (.iconst 0, 1) := by decide +kernel
theorem dX9_card_80 : decode cX9_card 80 = .ok (.invokestatic 47, 3) := by decide +kernel
theorem dX9_card_83 : decode cX9_card 83 = .ok (.istore 7, 2) := by decide +kernel
theorem dX9_card_85 : decode cX9_card 85 = .ok (.aload_n 0, 1) := by decide +kernel
theorem dX9_card_86 : decode cX9_card 86 = .ok (.getfield 7, 3) := by decide +kernel
theorem dX9_card_89 : decode cX9_card 89 = .ok (.iload 7, 2) := by decide +kernel
theorem dX9_card_91 : decode cX9_card 91 = .ok (.iload_n 2, 1) := by decide +kernel
theorem dX9_card_92 : decode cX9_card 92 = .ok (.iastore, 1) := by decide +kernel
theorem dX9_card_93 : decode cX9_card 93 = .ok (.aload_n 0, 1) := by decide +kernel
theorem dX9_card_94 : decode cX9_card 94 = .ok (.getfield 7, 3) := by decide +kernel
theorem dX9_card_97 : decode cX9_card 97 = .ok (.iload 7, 2) := by decide +kernel
theorem dX9_card_99 : decode cX9_card 99 = .ok (.iconst 1, 1) := by decide +kernel
theorem dX9_card_100 : decode cX9_card 100 = .ok (.iadd, 1) := by decide +kernel
theorem dX9_card_101 : decode cX9_card 101 = .ok (.iload_n 3, 1) := by decide +kernel
theorem dX9_card_102 : decode cX9_card 102 = .ok (.iastore, 1) := by decide +kernel
theorem dX9_card_103 : decode cX9_card 103 = .ok (.aload_n 0, 1) := by decide +kernel
theorem dX9_card_104 : decode cX9_card 104 = .ok (.getfield 7, 3) := by decide +kernel
theorem dX9_card_107 : decode cX9_card 107 = .ok (.iload 7, 2) := by decide +kernel
theorem dX9_card_109 : decode cX9_card 109 = .ok (.iconst 2, 1) := by decide +kernel
theorem dX9_card_110 : decode cX9_card 110 = .ok (.iadd, 1) := by decide +kernel
theorem dX9_card_111 : decode cX9_card 111 = .ok (.iload 4, 2) := by decide +kernel
theorem dX9_card_113 : decode cX9_card 113 = .ok (.iastore, 1) := by decide +kernel
theorem dX9_card_114 : decode cX9_card 114 = .ok (.aload_n 0, 1) := by decide +kernel
theorem dX9_card_115 : decode cX9_card 115 = .ok (.getfield 7, 3) := by decide +kernel
theorem dX9_card_118 : decode cX9_card 118 = .ok (.iload 7, 2) := by decide +kernel
theorem dX9_card_120 : decode cX9_card 120 = .ok (.iconst 3, 1) := by decide +kernel
theorem dX9_card_121 : decode cX9_card 121 = .ok (.iadd, 1) := by decide +kernel
theorem dX9_card_122 : decode cX9_card 122 = .ok (.iload 5, 2) := by decide +kernel
theorem dX9_card_124 : decode cX9_card 124 = .ok (.iastore, 1) := by decide +kernel
theorem dX9_card_125 : decode cX9_card 125 = .ok (.aload_n 0, 1) := by decide +kernel
theorem dX9_card_126 : decode cX9_card 126 = .ok (.getfield 7, 3) := by decide +kernel
theorem dX9_card_129 : decode cX9_card 129 = .ok (.iconst 2, 1) := by decide +kernel
theorem dX9_card_130 : decode cX9_card 130 = .ok (.iload_n 1, 1) := by decide +kernel
theorem dX9_card_131 : decode cX9_card 131 = .ok (.iadd, 1) := by decide +kernel
theorem dX9_card_132 : decode cX9_card 132 = .ok (.dup2, 1) := by decide +kernel
theorem dX9_card_133 : decode cX9_card 133 = .ok (.iaload, 1) := by decide +kernel
theorem dX9_card_134 : decode cX9_card 134 = .ok (.iconst 1, 1) := by decide +kernel
theorem dX9_card_135 : decode cX9_card 135 = .ok (.iadd, 1) := by decide +kernel
theorem dX9_card_136 : decode cX9_card 136 = .ok (.iastore, 1) := by decide +kernel
theorem dX9_card_137 : decode cX9_card 137 = .ok (.iload 6, 2) := by decide +kernel
theorem dX9_card_139 : decode cX9_card 139 = .ok (.ireturn, 1) := by decide +kernel
set_option maxRecDepth 20000 in
theorem ggX9_put_X9_isDrawer : GoodIn wsX9_put wsX9_isDrawer := goodIn_r _ [5, 6, 7, 4, 8] (by decide +kernel) (by decide +kernel)
set_option maxRecDepth 20000 in
theorem gX9_put_X9_isDrawer : GoodIn wsX9_put (va_wsS RX9 36 yX9_isDrawer wsX9_isDrawer) := goodIn_app (goodIn_of _ (by decide +kernel)) ggX9_put_X9_isDrawer
set_option maxRecDepth 20000 in
theorem ggX9_put_X9_isCard : GoodIn wsX9_put wsX9_isCard := goodIn_r _ [12, 1, 26, 27, 28, 29, 30, 31, 32, 33, 34, 35, 36, 37, 38] (by decide +kernel) (by decide +kernel)
set_option maxRecDepth 20000 in
theorem gX9_put_X9_isCard : GoodIn wsX9_put (wsV RX9 51 RX9 yX9_isCard wsX9_isCard) := goodIn_app (goodIn_of _ (by decide +kernel)) ggX9_put_X9_isCard
set_option maxRecDepth 20000 in
theorem ggX9_put_X9_isColumn : GoodIn wsX9_put wsX9_isColumn := goodIn_r _ [16, 1, 26, 27, 28, 29, 30, 31, 32, 33, 34, 35, 36, 37, 38] (by decide +kernel) (by decide +kernel)
set_option maxRecDepth 20000 in
theorem gX9_put_X9_isColumn : GoodIn wsX9_put (wsV RX9 55 RX9 yX9_isColumn wsX9_isColumn) := goodIn_app (goodIn_of _ (by decide +kernel)) ggX9_put_X9_isColumn
set_option maxRecDepth 20000 in
theorem ggX9_put_X9_in : GoodIn wsX9_put wsX9_in := goodIn_r _ [8] (by decide +kernel) (by decide +kernel)
set_option maxRecDepth 20000 in
theorem gX9_put_X9_in : GoodIn wsX9_put (va_wsS RX9 32 yX9_in wsX9_in) := goodIn_app (goodIn_of _ (by decide +kernel)) ggX9_put_X9_in
set_option maxRecDepth 20000 in
theorem ggX9_put_X9_changes : GoodIn wsX9_put wsX9_changes := goodIn_r _ [20, 21, 22, 1, 26, 27, 28, 29, 30, 31, 32, 33, 34, 35, 36, 37, 38] (by decide +kernel) (by decide +kernel)
set_option maxRecDepth 20000 in
theorem gX9_put_X9_changes : GoodIn wsX9_put (wsV RX9 40 RX9 yX9_changes wsX9_changes) := goodIn_app (goodIn_of _ (by decide +kernel)) ggX9_put_X9_changes
set_option maxRecDepth 20000 in
theorem ggX9_put_X9_valueAt : GoodIn wsX9_put wsX9_valueAt := goodIn_r _ [25] (by decide +kernel) (by decide +kernel)
set_option maxRecDepth 20000 in
theorem gX9_put_X9_valueAt : GoodIn wsX9_put (va_wsS RX9 47 yX9_valueAt wsX9_valueAt) := goodIn_app (goodIn_of _ (by decide +kernel)) ggX9_put_X9_valueAt
theorem dX9_put_0 : decode cX9_put 0 = .ok (.iload_n 1, 1) := by decide +kernel
theorem dX9_put_1 : decode cX9_put 1 = .ok (.invokestatic 36, 3) := by decide +kernel
theorem dX9_put_4 : decode cX9_put 4 = .ok (.ifCond .eq 32, 3) := by decide +kernel
theorem dX9_put_7 : decode cX9_put 7 = .ok (.aload_n 0, 1) := by decide +kernel
theorem dX9_put_8 : decode cX9_put 8 = .ok (.iload_n 1, 1) := by decide +kernel
theorem dX9_put_9 : decode cX9_put 9 = .ok (.iload_n 2, 1) := by decide +kernel
theorem dX9_put_10 : decode cX9_put 10 = .ok (.invokevirtual 51, 3) := by decide +kernel
theorem dX9_put_13 : decode cX9_put 13 = .ok (.ifCond .eq 23, 3) := by decide +kernel
theorem dX9_put_16 : decode cX9_put 16 = .ok (.aload_n 0, 1) := by decide +kernel
theorem dX9_put_17 : decode cX9_put 17 = .ok (.iload_n 1, 1) := by decide +kernel
theorem dX9_put_18 : decode cX9_put 18 = .ok (.iload_n 3, 1) := by decide +kernel
theorem dX9_put_19 : decode cX9_put 19 = .ok (.invokevirtual 55, 3) := by decide +kernel
theorem dX9_put_22 : decode cX9_put 22 = .ok (.ifCond .eq 14, 3) := by decide +kernel
theorem dX9_put_25 : decode cX9_put 25 = .ok (.iload 4, 2) := by decide +kernel
theorem dX9_put_27 : decode cX9_put 27 = .ok (.iconst (-1), 1) := by decide +kernel
theorem dX9_put_28 : decode cX9_put 28 = .ok (.bipush 99, 2) := by decide +kernel
theorem dX9_put_30 : decode cX9_put 30 = .ok (.invokestatic 32, 3) := by decide +kernel
theorem dX9_put_33 : decode cX9_put 33 = .ok (.ifCond .ne 6, 3) := by decide +kernel
theorem dX9_put_36 : decode cX9_put 36 = .ok (.bipush (-11), 2) := by decide +kernel
theorem dX9_put_38 : decode cX9_put 38 = .ok (.ireturn, 1) := by decide +kernel
theorem dX9_put_39 : decode cX9_put 39 = .ok (.aload_n 0, 1) := by decide +kernel
theorem dX9_put_40 : decode cX9_put 40 = .ok (.invokevirtual 40, 3) := by decide +kernel
theorem dX9_put_43 : decode cX9_put 43 = .ok (.aload_n 0, 1) := by decide +kernel
theorem dX9_put_44 : decode cX9_put 44 = .ok (.getfield 7, 3) := by decide +kernel
theorem dX9_put_47 : decode cX9_put 47 = .ok (.iload_n 1, 1) := by decide +kernel
theorem dX9_put_48 : decode cX9_put 48 = .ok (.iload_n 2, 1) := by decide +kernel
theorem dX9_put_49 : decode cX9_put 49 = .ok (.iload_n 3, 1) := by decide +kernel
theorem dX9_put_50 : decode cX9_put 50 = .ok (.invokestatic 47, 3) := by decide +kernel
theorem dX9_put_53 : decode cX9_put 53 = .ok (.iaload, 1) := by decide +kernel
theorem dX9_put_54 : decode cX9_put 54 = .ok (.istore 5, 2) := by decide +kernel
theorem dX9_put_56 : decode cX9_put 56 = .ok (.aload_n 0, 1) := by decide +kernel
theorem dX9_put_57 : decode cX9_put 57 = .ok (.getfield 7, 3) := by decide +kernel
theorem dX9_put_60 : decode cX9_put 60 = .ok (.iload_n 1, 1) := by decide +kernel
theorem dX9_put_61 : decode cX9_put 61 = .ok (.iload_n 2, 1) := by decide +kernel
theorem dX9_put_62 : decode cX9_put 62 = .ok (.iload_n 3, 1) := by decide +kernel
theorem dX9_put_63 : decode cX9_put 63 = .ok (.invokestatic 47, 3) := by decide +kernel
theorem dX9_put_66 : decode cX9_put 66 = .ok (.iload 4, 2) := by decide +kernel
