theorem dX9_readsCell_58 : decode cX9_readsCell 58 = .ok (.invokevirtual 135, 3) := by decide +kernel
theorem dX9_readsCell_61 : decode cX9_readsCell 61 = .ok (.ireturn, 1) := by decide +kernel
theorem dX9_readsCell_62 : decode cX9_readsCell 62 = .ok (.aload_n 0, 1) := by decide +kernel
theorem dX9_readsCell_63 : decode cX9_readsCell 63 = .ok (.bipush 35, 2) := by decide +kernel
theorem dX9_readsCell_65 : decode cX9_readsCell 65 = .ok (.bipush 35, 2) := by decide +kernel
theorem dX9_readsCell_67 : decode cX9_readsCell 67 = .ok (.invokevirtual 132, 3) := by decide +kernel
theorem dX9_readsCell_70 : decode cX9_readsCell 70 = .ok (.ifCond .eq 29, 3) := by decide +kernel
theorem dX9_readsCell_73 : decode cX9_readsCell 73 = .ok (.aload_n 0, 1) := by decide +kernel
theorem dX9_readsCell_74 : decode cX9_readsCell 74 = .ok (.invokevirtual 138, 3) := by decide +kernel
theorem dX9_readsCell_77 : decode cX9_readsCell 77 = .ok (.ifCond .eq 16, 3) := by decide +kernel
theorem dX9_readsCell_80 : decode cX9_readsCell 80 = .ok (.aload_n 0, 1) := by decide +kernel
theorem dX9_readsCell_81 : decode cX9_readsCell 81 = .ok (.iconst 4, 1) := by decide +kernel
theorem dX9_readsCell_82 : decode cX9_readsCell 82 = .ok (.aload_n 0, 1) := by decide +kernel
theorem dX9_readsCell_83 : decode cX9_readsCell 83 = .ok (.getfield 123, 3) := by decide +kernel
theorem dX9_readsCell_86 : decode cX9_readsCell 86 = .ok (.iconst 0, 1) := by decide +kernel
theorem dX9_readsCell_87 : decode cX9_readsCell 87 = .ok (.invokevirtual 135, 3) := by decide +kernel
theorem dX9_readsCell_90 : decode cX9_readsCell 90 = .ok (.goto 8, 3) := by decide +kernel
theorem dX9_readsCell_93 : decode cX9_readsCell 93 = .ok (.aload_n 0, 1) := by decide +kernel
theorem dX9_readsCell_94 : decode cX9_readsCell 94 = .ok (.iconst 1, 1) := by decide +kernel
theorem dX9_readsCell_95 : decode cX9_readsCell 95 = .ok (.invokevirtual 142, 3) := by decide +kernel
theorem dX9_readsCell_98 : decode cX9_readsCell 98 = .ok (.ireturn, 1) := by decide +kernel
theorem dX9_readsCell_99 : decode cX9_readsCell 99 = .ok (.aload_n 0, 1) := by decide +kernel
theorem dX9_readsCell_100 : decode cX9_readsCell 100 = .ok (.bipush 60, 2) := by decide +kernel
theorem dX9_readsCell_102 : decode cX9_readsCell 102 = .ok (.bipush 60, 2) := by decide +kernel
theorem dX9_readsCell_104 : decode cX9_readsCell 104 = .ok (.invokevirtual 132, 3) := by decide +kernel
theorem dX9_readsCell_107 : decode cX9_readsCell 107 = .ok (.ifCond .eq 11, 3) := by decide +kernel
theorem dX9_readsCell_110 : decode cX9_readsCell 110 = .ok (.aload_n 0, 1) := by decide +kernel
theorem dX9_readsCell_111 : decode cX9_readsCell 111 = .ok (.iconst 5, 1) := by decide +kernel
theorem dX9_readsCell_112 : decode cX9_readsCell 112 = .ok (.bipush 9, 2) := by decide +kernel
theorem dX9_readsCell_114 : decode cX9_readsCell 114 = .ok (.invokevirtual 145, 3) := by decide +kernel
theorem dX9_readsCell_117 : decode cX9_readsCell 117 = .ok (.ireturn, 1) := by decide +kernel
theorem dX9_readsCell_118 : decode cX9_readsCell 118 = .ok (.aload_n 0, 1) := by decide +kernel
theorem dX9_readsCell_119 : decode cX9_readsCell 119 = .ok (.bipush 62, 2) := by decide +kernel
theorem dX9_readsCell_121 : decode cX9_readsCell 121 = .ok (.bipush 62, 2) := by decide +kernel
theorem dX9_readsCell_123 : decode cX9_readsCell 123 = .ok (.invokevirtual 132, 3) := by decide +kernel
theorem dX9_readsCell_126 : decode cX9_readsCell 126 = .ok (.ifCond .eq 12, 3) := by decide +kernel
theorem dX9_readsCell_129 : decode cX9_readsCell 129 = .ok (.aload_n 0, 1) := by decide +kernel
theorem dX9_readsCell_130 : decode cX9_readsCell 130 = .ok (.bipush 6, 2) := by decide +kernel
theorem dX9_readsCell_132 : decode cX9_readsCell 132 = .ok (.bipush 10, 2) := by decide +kernel
theorem dX9_readsCell_134 : decode cX9_readsCell 134 = .ok (.invokevirtual 145, 3) := by decide +kernel
theorem dX9_readsCell_137 : decode cX9_readsCell 137 = .ok (.ireturn, 1) := by decide +kernel
theorem dX9_readsCell_138 : decode cX9_readsCell 138 = .ok (.aload_n 0, 1) := by decide +kernel
theorem dX9_readsCell_139 : decode cX9_readsCell 139 = .ok (.bipush 119, 2) := by decide +kernel
theorem dX9_readsCell_141 : decode cX9_readsCell 141 = .ok (.bipush 122, 2) := by decide +kernel
theorem dX9_readsCell_143 : decode cX9_readsCell 143 = .ok (.invokevirtual 132, 3) := by decide +kernel
theorem dX9_readsCell_146 : decode cX9_readsCell 146 = .ok (.ifCond .eq 20, 3) := by decide +kernel
theorem dX9_readsCell_149 : decode cX9_readsCell 149 = .ok (.aload_n 0, 1) := by decide +kernel
theorem dX9_readsCell_150 : decode cX9_readsCell 150 = .ok (.bipush 8, 2) := by decide +kernel
theorem dX9_readsCell_152 : decode cX9_readsCell 152 = .ok (.aload_n 0, 1) := by decide +kernel
theorem dX9_readsCell_153 : decode cX9_readsCell 153 = .ok (.getfield 16, 3) := by decide +kernel
theorem dX9_readsCell_156 : decode cX9_readsCell 156 = .ok (.iload_n 1, 1) := by decide +kernel
theorem dX9_readsCell_157 : decode cX9_readsCell 157 = .ok (.iaload, 1) := by decide +kernel
theorem dX9_readsCell_158 : decode cX9_readsCell 158 = .ok (.bipush 119, 2) := by decide +kernel
theorem dX9_readsCell_160 : decode cX9_readsCell 160 = .ok (.isub, 1) := by decide +kernel
theorem dX9_readsCell_161 : decode cX9_readsCell 161 = .ok (.iconst 0, 1) := by decide +kernel
theorem dX9_readsCell_162 : decode cX9_readsCell 162 = .ok (.invokevirtual 135, 3) := by decide +kernel
theorem dX9_readsCell_165 : decode cX9_readsCell 165 = .ok (.ireturn, 1) := by decide +kernel
theorem dX9_readsCell_166 : decode cX9_readsCell 166 = .ok (.aload_n 0, 1) := by decide +kernel
theorem dX9_readsCell_167 : decode cX9_readsCell 167 = .ok (.invokevirtual 138, 3) := by decide +kernel
theorem dX9_readsCell_170 : decode cX9_readsCell 170 = .ok (.ifCond .eq 11, 3) := by decide +kernel
theorem dX9_readsCell_173 : decode cX9_readsCell 173 = .ok (.aload_n 0, 1) := by decide +kernel
theorem dX9_readsCell_174 : decode cX9_readsCell 174 = .ok (.iload_n 1, 1) := by decide +kernel
theorem dX9_readsCell_175 : decode cX9_readsCell 175 = .ok (.invokevirtual 148, 3) := by decide +kernel
theorem dX9_readsCell_178 : decode cX9_readsCell 178 = .ok (.goto 8, 3) := by decide +kernel
theorem dX9_readsCell_181 : decode cX9_readsCell 181 = .ok (.aload_n 0, 1) := by decide +kernel
theorem dX9_readsCell_182 : decode cX9_readsCell 182 = .ok (.iconst 1, 1) := by decide +kernel
theorem dX9_readsCell_183 : decode cX9_readsCell 183 = .ok (.invokevirtual 142, 3) := by decide +kernel
theorem dX9_readsCell_186 : decode cX9_readsCell 186 = .ok (.ireturn, 1) := by decide +kernel
set_option maxRecDepth 20000 in
theorem ggX9_isRight_X9_readsCell : GoodIn wsX9_isRight wsX9_readsCell := goodIn_r _ [8, 1, 9, 10, 11, 12, 13, 7, 14, 15, 16, 17, 18, 3, 19, 20, 21, 22, 23, 24, 25, 26, 2, 27, 28, 29, 30, 31, 32, 33, 34, 35, 36, 37, 38, 39, 40, 41, 42, 43, 44, 45, 46, 47, 48, 49, 50, 51, 52, 53, 54, 55, 56] (by decide +kernel) (by decide +kernel)
set_option maxRecDepth 20000 in
theorem gX9_isRight_X9_readsCell : GoodIn wsX9_isRight (wsV RX9 151 RX9 yX9_readsCell wsX9_readsCell) := goodIn_app (goodIn_of _ (by decide +kernel)) ggX9_isRight_X9_readsCell
set_option maxRecDepth 20000 in
theorem ggX9_isRight_X9_isAt : GoodIn wsX9_isRight wsX9_isAt := goodIn_r _ [18, 1, 3, 10, 19, 20, 7, 21, 44, 45, 46, 47, 48, 49, 50, 51, 52, 53, 54, 55, 56] (by decide +kernel) (by decide +kernel)
set_option maxRecDepth 20000 in
theorem gX9_isRight_X9_isAt : GoodIn wsX9_isRight (wsV RX9 120 RX9 yX9_isAt wsX9_isAt) := goodIn_app (goodIn_of _ (by decide +kernel)) ggX9_isRight_X9_isAt
set_option maxRecDepth 20000 in
theorem ggX9_isRight_X9_fails : GoodIn wsX9_isRight wsX9_fails := goodIn_r _ [34, 35, 44, 45, 46, 47, 48, 49, 50, 51, 52, 53, 54, 55, 56] (by decide +kernel) (by decide +kernel)
set_option maxRecDepth 20000 in
theorem gX9_isRight_X9_fails : GoodIn wsX9_isRight (wsV RX9 142 RX9 yX9_fails wsX9_fails) := goodIn_app (goodIn_of _ (by decide +kernel)) ggX9_isRight_X9_fails
theorem dX9_isRight_0 : decode cX9_isRight 0 = .ok (.aload_n 0, 1) := by decide +kernel
theorem dX9_isRight_1 : decode cX9_isRight 1 = .ok (.iconst 0, 1) := by decide +kernel
theorem dX9_isRight_2 : decode cX9_isRight 2 = .ok (.putfield 117, 3) := by decide +kernel
theorem dX9_isRight_5 : decode cX9_isRight 5 = .ok (.aload_n 0, 1) := by decide +kernel
theorem dX9_isRight_6 : decode cX9_isRight 6 = .ok (.iconst 0, 1) := by decide +kernel
theorem dX9_isRight_7 : decode cX9_isRight 7 = .ok (.putfield 126, 3) := by decide +kernel
theorem dX9_isRight_10 : decode cX9_isRight 10 = .ok (.aload_n 0, 1) := by decide +kernel
theorem dX9_isRight_11 : decode cX9_isRight 11 = .ok (.invokevirtual 151, 3) := by decide +kernel
theorem dX9_isRight_14 : decode cX9_isRight 14 = .ok (.istore_n 1, 1) := by decide +kernel
theorem dX9_isRight_15 : decode cX9_isRight 15 = .ok (.iload_n 1, 1) := by decide +kernel
theorem dX9_isRight_16 : decode cX9_isRight 16 = .ok (.ifCond .eq 63, 3) := by decide +kernel
theorem dX9_isRight_19 : decode cX9_isRight 19 = .ok (.aload_n 0, 1) := by decide +kernel
theorem dX9_isRight_20 : decode cX9_isRight 20 = .ok (.getfield 117, 3) := by decide +kernel
theorem dX9_isRight_23 : decode cX9_isRight 23 = .ok (.aload_n 0, 1) := by decide +kernel
theorem dX9_isRight_24 : decode cX9_isRight 24 = .ok (.getfield 114, 3) := by decide +kernel
theorem dX9_isRight_27 : decode cX9_isRight 27 = .ok (.if_icmp .ge 52, 3) := by decide +kernel
theorem dX9_isRight_30 : decode cX9_isRight 30 = .ok (.aload_n 0, 1) := by decide +kernel
theorem dX9_isRight_31 : decode cX9_isRight 31 = .ok (.bipush 44, 2) := by decide +kernel
theorem dX9_isRight_33 : decode cX9_isRight 33 = .ok (.bipush 44, 2) := by decide +kernel
theorem dX9_isRight_35 : decode cX9_isRight 35 = .ok (.invokevirtual 120, 3) := by decide +kernel
theorem dX9_isRight_38 : decode cX9_isRight 38 = .ok (.ifCond .ne 9, 3) := by decide +kernel
theorem dX9_isRight_41 : decode cX9_isRight 41 = .ok (.aload_n 0, 1) := by decide +kernel
theorem dX9_isRight_42 : decode cX9_isRight 42 = .ok (.iconst 1, 1) := by decide +kernel
theorem dX9_isRight_43 : decode cX9_isRight 43 = .ok (.invokevirtual 142, 3) := by decide +kernel
theorem dX9_isRight_46 : decode cX9_isRight 46 = .ok (.ireturn, 1) := by decide +kernel
theorem dX9_isRight_47 : decode cX9_isRight 47 = .ok (.aload_n 0, 1) := by decide +kernel
theorem dX9_isRight_48 : decode cX9_isRight 48 = .ok (.getfield 126, 3) := by decide +kernel
theorem dX9_isRight_51 : decode cX9_isRight 51 = .ok (.iconst 4, 1) := by decide +kernel
theorem dX9_isRight_52 : decode cX9_isRight 52 = .ok (.if_icmp .ne 9, 3) := by decide +kernel
theorem dX9_isRight_55 : decode cX9_isRight 55 = .ok (.aload_n 0, 1) := by decide +kernel
theorem dX9_isRight_56 : decode cX9_isRight 56 = .ok (.iconst 3, 1) := by decide +kernel
theorem dX9_isRight_57 : decode cX9_isRight 57 = .ok (.invokevirtual 142, 3) := by decide +kernel
theorem dX9_isRight_60 : decode cX9_isRight 60 = .ok (.ireturn, 1) := by decide +kernel
theorem dX9_isRight_61 : decode cX9_isRight 61 = .ok (.aload_n 0, 1) := by decide +kernel
theorem dX9_isRight_62 : decode cX9_isRight 62 = .ok (.dup, 1) := by decide +kernel
theorem dX9_isRight_63 : decode cX9_isRight 63 = .ok (.getfield 117, 3) := by decide +kernel
theorem dX9_isRight_66 : decode cX9_isRight 66 = .ok (.iconst 1, 1) := by decide +kernel
theorem dX9_isRight_67 : decode cX9_isRight 67 = .ok (.iadd, 1) := by decide +kernel
theorem dX9_isRight_68 : decode cX9_isRight 68 = .ok (.putfield 117, 3) := by decide +kernel
theorem dX9_isRight_71 : decode cX9_isRight 71 = .ok (.aload_n 0, 1) := by decide +kernel
theorem dX9_isRight_72 : decode cX9_isRight 72 = .ok (.invokevirtual 151, 3) := by decide +kernel
theorem dX9_isRight_75 : decode cX9_isRight 75 = .ok (.istore_n 1, 1) := by decide +kernel
theorem dX9_isRight_76 : decode cX9_isRight 76 = .ok (.goto (-61), 3) := by decide +kernel
theorem dX9_isRight_79 : decode cX9_isRight 79 = .ok (.iload_n 1, 1) := by decide +kernel
theorem dX9_isRight_80 : decode cX9_isRight 80 = .ok (.ireturn, 1) := by decide +kernel
set_option maxRecDepth 20000 in
theorem ggX9_fault_X9_in : GoodIn wsX9_fault wsX9_in := goodIn_r _ [6] (by decide +kernel) (by decide +kernel)
set_option maxRecDepth 20000 in
theorem gX9_fault_X9_in : GoodIn wsX9_fault (va_wsS RX9 32 yX9_in wsX9_in) := goodIn_app (goodIn_of _ (by decide +kernel)) ggX9_fault_X9_in
set_option maxRecDepth 20000 in
theorem ggX9_fault_X9_isRight : GoodIn wsX9_fault wsX9_isRight := goodIn_r _ [10, 1, 11, 12, 13, 14, 15, 5, 16, 17, 18, 19, 20, 21, 22, 23, 24, 25, 26, 3, 4, 6, 27, 28, 29, 30, 31, 32, 33, 34, 35, 36, 37, 38, 39, 2, 40, 41, 42, 43, 44, 45, 46, 47, 48, 49, 50, 51, 52, 53, 54, 55, 56, 57, 58, 59, 60] (by decide +kernel) (by decide +kernel)
set_option maxRecDepth 20000 in
theorem gX9_fault_X9_isRight : GoodIn wsX9_fault (wsV RX9 154 RX9 yX9_isRight wsX9_isRight) := goodIn_app (goodIn_of _ (by decide +kernel)) ggX9_fault_X9_isRight
theorem dX9_fault_0 : decode cX9_fault 0 = .ok (.iload_n 1, 1) := by decide +kernel
theorem dX9_fault_1 : decode cX9_fault 1 = .ok (.iconst 0, 1) := by decide +kernel
theorem dX9_fault_2 : decode cX9_fault 2 = .ok (.iconst 1, 1) := by decide +kernel
theorem dX9_fault_3 : decode cX9_fault 3 = .ok (.invokestatic 32, 3) := by decide +kernel
theorem dX9_fault_6 : decode cX9_fault 6 = .ok (.ifCond .ne 6, 3) := by decide +kernel
theorem dX9_fault_9 : decode cX9_fault 9 = .ok (.bipush (-11), 2) := by decide +kernel
theorem dX9_fault_11 : decode cX9_fault 11 = .ok (.ireturn, 1) := by decide +kernel
theorem dX9_fault_12 : decode cX9_fault 12 = .ok (.aload_n 0, 1) := by decide +kernel
theorem dX9_fault_13 : decode cX9_fault 13 = .ok (.invokevirtual 154, 3) := by decide +kernel
theorem dX9_fault_16 : decode cX9_fault 16 = .ok (.ifCond .eq 8, 3) := by decide +kernel
theorem dX9_fault_19 : decode cX9_fault 19 = .ok (.bipush (-14), 2) := by decide +kernel
theorem dX9_fault_21 : decode cX9_fault 21 = .ok (.goto 18, 3) := by decide +kernel
theorem dX9_fault_24 : decode cX9_fault 24 = .ok (.iload_n 1, 1) := by decide +kernel
theorem dX9_fault_25 : decode cX9_fault 25 = .ok (.ifCond .ne 10, 3) := by decide +kernel
theorem dX9_fault_28 : decode cX9_fault 28 = .ok (.aload_n 0, 1) := by decide +kernel
theorem dX9_fault_29 : decode cX9_fault 29 = .ok (.getfield 117, 3) := by decide +kernel
theorem dX9_fault_32 : decode cX9_fault 32 = .ok (.goto 7, 3) := by decide +kernel
theorem dX9_fault_35 : decode cX9_fault 35 = .ok (.aload_n 0, 1) := by decide +kernel
theorem dX9_fault_36 : decode cX9_fault 36 = .ok (.getfield 129, 3) := by decide +kernel
theorem dX9_fault_39 : decode cX9_fault 39 = .ok (.ireturn, 1) := by decide +kernel
set_option maxRecDepth 20000 in
theorem ggX9_read_X9_isDrawer : GoodIn wsX9_read wsX9_isDrawer := goodIn_r _ [8, 9, 10, 7, 11] (by decide +kernel) (by decide +kernel)
set_option maxRecDepth 20000 in
theorem gX9_read_X9_isDrawer : GoodIn wsX9_read (va_wsS RX9 36 yX9_isDrawer wsX9_isDrawer) := goodIn_app (goodIn_of _ (by decide +kernel)) ggX9_read_X9_isDrawer
set_option maxRecDepth 20000 in
theorem ggX9_read_X9_isRight : GoodIn wsX9_read wsX9_isRight := goodIn_r _ [15, 16, 1, 17, 18, 19, 20, 7, 21, 22, 23, 24, 25, 26, 27, 28, 29, 30, 31, 9, 10, 11, 32, 33, 34, 35, 3, 36, 37, 38, 39, 40, 41, 42, 43, 44, 45, 46, 47, 48, 49, 50, 51, 52, 111, 112, 113, 114, 115, 116, 117, 118, 119, 120, 121, 122, 123] (by decide +kernel) (by decide +kernel)
set_option maxRecDepth 20000 in
theorem gX9_read_X9_isRight : GoodIn wsX9_read (wsV RX9 154 RX9 yX9_isRight wsX9_isRight) := goodIn_app (goodIn_of _ (by decide +kernel)) ggX9_read_X9_isRight
set_option maxRecDepth 20000 in
theorem ggX9_read_X9_changes : GoodIn wsX9_read wsX9_changes := goodIn_r _ [56, 57, 58, 2, 111, 112, 113, 114, 115, 116, 117, 118, 119, 120, 121, 122, 123] (by decide +kernel) (by decide +kernel)
set_option maxRecDepth 20000 in
theorem gX9_read_X9_changes : GoodIn wsX9_read (wsV RX9 40 RX9 yX9_changes wsX9_changes) := goodIn_app (goodIn_of _ (by decide +kernel)) ggX9_read_X9_changes
set_option maxRecDepth 20000 in
theorem ggX9_read_X9_setsCell : GoodIn wsX9_read wsX9_setsCell := goodIn_r _ [62, 2, 111, 112, 113, 114, 115, 116, 117, 118, 119, 120, 121, 122, 123] (by decide +kernel) (by decide +kernel)
set_option maxRecDepth 20000 in
theorem gX9_read_X9_setsCell : GoodIn wsX9_read (wsV RX9 43 RX9 yX9_setsCell wsX9_setsCell) := goodIn_app (goodIn_of _ (by decide +kernel)) ggX9_read_X9_setsCell
set_option maxRecDepth 20000 in
theorem ggX9_read_X9_finds : GoodIn wsX9_read wsX9_finds := goodIn_r _ [66, 4, 2, 67, 68, 69, 7, 70, 71, 72, 73, 74, 75, 76, 77, 78, 79, 80, 81, 82, 83, 84, 85, 86, 87, 88, 89, 90, 91, 92, 93, 94, 95, 96, 9, 10, 11, 97, 98, 99, 100, 101, 102, 103, 104, 105, 106, 107, 108, 109, 110, 111, 112, 113, 114, 115, 116, 117, 118, 119, 120, 121, 122, 123] (by decide +kernel) (by decide +kernel)
set_option maxRecDepth 20000 in
theorem gX9_read_X9_finds : GoodIn wsX9_read (wsV RX9 68 RX9 yX9_finds wsX9_finds) := goodIn_app (goodIn_of _ (by decide +kernel)) ggX9_read_X9_finds
theorem dX9_read_0 : decode cX9_read 0 = .ok (.iload_n 1, 1) := by decide +kernel
theorem dX9_read_1 : decode cX9_read 1 = .ok (.invokestatic 36, 3) := by decide +kernel
theorem dX9_read_4 : decode cX9_read 4 = .ok (.ifCond .ne 6, 3) := by decide +kernel
theorem dX9_read_7 : decode cX9_read 7 = .ok (.bipush (-11), 2) := by decide +kernel
theorem dX9_read_9 : decode cX9_read 9 = .ok (.ireturn, 1) := by decide +kernel
theorem dX9_read_10 : decode cX9_read 10 = .ok (.aload_n 0, 1) := by decide +kernel
theorem dX9_read_11 : decode cX9_read 11 = .ok (.invokevirtual 154, 3) := by decide +kernel
theorem dX9_read_14 : decode cX9_read 14 = .ok (.ifCond .eq 18, 3) := by decide +kernel
theorem dX9_read_17 : decode cX9_read 17 = .ok (.aload_n 0, 1) := by decide +kernel
theorem dX9_read_18 : decode cX9_read 18 = .ok (.getfield 126, 3) := by decide +kernel
theorem dX9_read_21 : decode cX9_read 21 = .ok (.aload_n 0, 1) := by decide +kernel
theorem dX9_read_22 : decode cX9_read 22 = .ok (.getfield 7, 3) := by decide +kernel
theorem dX9_read_25 : decode cX9_read 25 = .ok (.iconst 0, 1) := by decide +kernel
theorem dX9_read_26 : decode cX9_read 26 = .ok (.iload_n 1, 1) := by decide +kernel
theorem dX9_read_27 : decode cX9_read 27 = .ok (.iadd, 1) := by decide +kernel
theorem dX9_read_28 : decode cX9_read 28 = .ok (.iaload, 1) := by decide +kernel
theorem dX9_read_29 : decode cX9_read 29 = .ok (.if_icmp .le 6, 3) := by decide +kernel
theorem dX9_read_32 : decode cX9_read 32 = .ok (.bipush (-12), 2) := by decide +kernel
theorem dX9_read_34 : decode cX9_read 34 = .ok (.ireturn, 1) := by decide +kernel
theorem dX9_read_35 : decode cX9_read 35 = .ok (.aload_n 0, 1) := by decide +kernel
theorem dX9_read_36 : decode cX9_read 36 = .ok (.invokevirtual 40, 3) := by decide +kernel
theorem dX9_read_39 : decode cX9_read 39 = .ok (.iconst 0, 1) := by decide +kernel
theorem dX9_read_40 : decode cX9_read 40 = .ok (.istore_n 2, 1) := by decide +kernel
theorem dX9_read_41 : decode cX9_read 41 = .ok (.iload_n 2, 1) := by decide +kernel
theorem dX9_read_42 : decode cX9_read 42 = .ok (.iconst 4, 1) := by decide +kernel
theorem dX9_read_43 : decode cX9_read 43 = .ok (.if_icmp .ge 81, 3) := by decide +kernel
theorem dX9_read_46 : decode cX9_read 46 = .ok (.iload_n 2, 1) := by decide +kernel
theorem dX9_read_47 : decode cX9_read 47 = .ok (.aload_n 0, 1) := by decide +kernel
theorem dX9_read_48 : decode cX9_read 48 = .ok (.getfield 126, 3) := by decide +kernel
theorem dX9_read_51 : decode cX9_read 51 = .ok (.if_icmp .ge 7, 3) := by decide +kernel
theorem dX9_read_54 : decode cX9_read 54 = .ok (.iconst 1, 1) := by decide +kernel
theorem dX9_read_55 : decode cX9_read 55 = .ok (.goto 4, 3) := by decide +kernel
theorem dX9_read_58 : decode cX9_read 58 = .ok (.iconst 0, 1) := by decide +kernel
theorem dX9_read_59 : decode cX9_read 59 = .ok (.istore_n 3, 1) := by decide +kernel
theorem dX9_read_60 : decode cX9_read 60 = .ok (.aload_n 0, 1) := by decide +kernel
theorem dX9_read_61 : decode cX9_read 61 = .ok (.iload_n 1, 1) := by decide +kernel
theorem dX9_read_62 : decode cX9_read 62 = .ok (.iload_n 2, 1) := by decide +kernel
theorem dX9_read_63 : decode cX9_read 63 = .ok (.iload_n 3, 1) := by decide +kernel
theorem dX9_read_64 : decode cX9_read 64 = .ok (.ifCond .eq 14, 3) := by decide +kernel
theorem dX9_read_67 : decode cX9_read 67 = .ok (.aload_n 0, 1) := by decide +kernel
theorem dX9_read_68 : decode cX9_read 68 = .ok (.getfield 25, 3) := by decide +kernel
theorem dX9_read_71 : decode cX9_read 71 = .ok (.iconst 3, 1) := by decide +kernel
theorem dX9_read_72 : decode cX9_read 72 = .ok (.iload_n 2, 1) := by decide +kernel
theorem dX9_read_73 : decode cX9_read 73 = .ok (.imul, 1) := by decide +kernel
theorem dX9_read_74 : decode cX9_read 74 = .ok (.iaload, 1) := by decide +kernel
theorem dX9_read_75 : decode cX9_read 75 = .ok (.goto 4, 3) := by decide +kernel
theorem dX9_read_78 : decode cX9_read 78 = .ok (.iconst 0, 1) := by decide +kernel
theorem dX9_read_79 : decode cX9_read 79 = .ok (.iload_n 3, 1) := by decide +kernel
theorem dX9_read_80 : decode cX9_read 80 = .ok (.ifCond .eq 16, 3) := by decide +kernel
theorem dX9_read_83 : decode cX9_read 83 = .ok (.aload_n 0, 1) := by decide +kernel
theorem dX9_read_84 : decode cX9_read 84 = .ok (.getfield 25, 3) := by decide +kernel
theorem dX9_read_87 : decode cX9_read 87 = .ok (.iconst 3, 1) := by decide +kernel
theorem dX9_read_88 : decode cX9_read 88 = .ok (.iload_n 2, 1) := by decide +kernel
theorem dX9_read_89 : decode cX9_read 89 = .ok (.imul, 1) := by decide +kernel
theorem dX9_read_90 : decode cX9_read 90 = .ok (.iconst 1, 1) := by decide +kernel
theorem dX9_read_91 : decode cX9_read 91 = .ok (.iadd, 1) := by decide +kernel
theorem dX9_read_92 : decode cX9_read 92 = .ok (.iaload, 1) := by decide +kernel
theorem dX9_read_93 : decode cX9_read 93 = .ok (.goto 4, 3) := by decide +kernel
theorem dX9_read_96 : decode cX9_read 96 = .ok (.iconst 0, 1) := by decide +kernel
theorem dX9_read_97 : decode cX9_read 97 = .ok (.iload_n 3, 1) := by decide +kernel
theorem dX9_read_98 : decode cX9_read 98 = .ok (.ifCond .eq 16, 3) := by decide +kernel
theorem dX9_read_101 : decode cX9_read 101 = .ok (.aload_n 0, 1) := by decide +kernel
theorem dX9_read_102 : decode cX9_read 102 = .ok (.getfield 25, 3) := by decide +kernel
theorem dX9_read_105 : decode cX9_read 105 = .ok (.iconst 3, 1) := by decide +kernel
theorem dX9_read_106 : decode cX9_read 106 = .ok (.iload_n 2, 1) := by decide +kernel
theorem dX9_read_107 : decode cX9_read 107 = .ok (.imul, 1) := by decide +kernel
theorem dX9_read_108 : decode cX9_read 108 = .ok (.iconst 2, 1) := by decide +kernel
theorem dX9_read_109 : decode cX9_read 109 = .ok (.iadd, 1) := by decide +kernel
theorem dX9_read_110 : decode cX9_read 110 = .ok (.iaload, 1) := by decide +kernel
theorem dX9_read_111 : decode cX9_read 111 = .ok (.goto 4, 3) := by decide +kernel
theorem dX9_read_114 : decode cX9_read 114 = .ok (.iconst 0, 1) := by decide +kernel
theorem dX9_read_115 : decode cX9_read 115 = .ok (.invokevirtual 43, 3) := by decide +kernel
theorem dX9_read_118 : decode cX9_read 118 = .ok (.iinc 2 1, 3) := by decide +kernel
theorem dX9_read_121 : decode cX9_read 121 = .ok (.goto (-80), 3) := by decide +kernel
theorem dX9_read_124 : decode cX9_read 124 = .ok (.aload_n 0, 1) := by decide +kernel
theorem dX9_read_125 : decode cX9_read 125 = .ok (.invokevirtual 68, 3) := by decide +kernel
theorem dX9_read_128 : decode cX9_read 128 = .ok (.aload_n 0, 1) := by decide +kernel
theorem dX9_read_129 : decode cX9_read 129 = .ok (.getfield 71, 3) := by decide +kernel
theorem dX9_read_132 : decode cX9_read 132 = .ok (.ireturn, 1) := by decide +kernel
theorem dJ9_max_7cf53_0 : decode cJ9_max_7cf53 0 = .ok (.iload_n 0, 1) := by decide +kernel
theorem dJ9_max_7cf53_1 : decode cJ9_max_7cf53 1 = .ok (.iload_n 1, 1) := by decide +kernel
theorem dJ9_max_7cf53_2 : decode cJ9_max_7cf53 2 = .ok (.if_icmp .lt 7, 3) := by decide +kernel
theorem dJ9_max_7cf53_5 : decode cJ9_max_7cf53 5 = .ok (.iload_n 0, 1) := by decide +kernel
theorem dJ9_max_7cf53_6 : decode cJ9_max_7cf53 6 = .ok (.goto 4, 3) := by decide +kernel
theorem dJ9_max_7cf53_9 : decode cJ9_max_7cf53 9 = .ok (.iload_n 1, 1) := by decide +kernel
theorem dJ9_max_7cf53_10 : decode cJ9_max_7cf53 10 = .ok (.ireturn, 1) := by decide +kernel
theorem dJ9_min_7cf53_0 : decode cJ9_min_7cf53 0 = .ok (.iload_n 0, 1) := by decide +kernel
theorem dJ9_min_7cf53_1 : decode cJ9_min_7cf53 1 = .ok (.iload_n 1, 1) := by decide +kernel
theorem dJ9_min_7cf53_2 : decode cJ9_min_7cf53 2 = .ok (.if_icmp .gt 7, 3) := by decide +kernel
theorem dJ9_min_7cf53_5 : decode cJ9_min_7cf53 5 = .ok (.iload_n 0, 1) := by decide +kernel
theorem dJ9_min_7cf53_6 : decode cJ9_min_7cf53 6 = .ok (.goto 4, 3) := by decide +kernel
theorem dJ9_min_7cf53_9 : decode cJ9_min_7cf53 9 = .ok (.iload_n 1, 1) := by decide +kernel
theorem dJ9_min_7cf53_10 : decode cJ9_min_7cf53 10 = .ok (.ireturn, 1) := by decide +kernel
set_option maxRecDepth 20000 in
theorem ggL_law_X8_init : GoodIn wsL_law wsX8_init := goodIn_r _ [8, 9, 10, 11, 12, 13, 14, 15, 16, 17, 18, 19, 20, 21, 22, 23, 24, 25, 26, 27, 28, 29, 30, 31, 32, 33, 34, 35, 36, 37, 38, 39, 40, 41, 42, 43, 44, 45, 46, 47, 48, 49, 50, 51, 52, 53, 54, 55, 56, 57, 58, 59, 60, 61, 62, 63, 64, 65, 66, 67, 68, 69, 70, 71, 72, 73, 74, 75, 76, 77, 78, 79, 80, 81, 82, 83, 84, 85, 86, 87, 88, 89, 90, 91, 92, 93, 94, 95, 96, 97, 98, 99, 100, 101, 102, 103, 104, 105, 106, 107, 108, 109, 110, 111, 112, 113, 114, 115, 116, 117, 118, 119, 821, 822, 823, 824, 825, 826, 803, 804, 805, 806, 807, 827, 828, 829, 830, 831, 832, 833, 834, 835, 836, 837, 838, 839, 840, 841, 842, 843, 844, 845, 846, 847, 848, 849, 850, 851, 852, 853] (by decide +kernel) (by decide +kernel)
set_option maxRecDepth 20000 in
theorem gL_law_X8_init : GoodIn wsL_law (wsX8_init) := ggL_law_X8_init
set_option maxRecDepth 20000 in
theorem ggL_law_X9_init : GoodIn wsL_law wsX9_init := goodIn_r _ [122, 123, 10, 11, 66, 124, 125, 126, 127, 128, 129, 808, 809, 810, 811, 812, 813, 814, 815, 816, 817, 818, 819, 820] (by decide +kernel) (by decide +kernel)
set_option maxRecDepth 20000 in
theorem gL_law_X9_init : GoodIn wsL_law (wsX9_init) := ggL_law_X9_init
set_option maxRecDepth 20000 in
theorem ggL_law_X8_columns : GoodIn wsL_law wsX8_columns := goodIn_r _ [133, 19, 15, 134, 135, 2, 136, 137, 138, 139, 18, 140, 88, 87, 86, 85, 89, 141, 142, 64, 143, 144, 145, 146, 14, 147, 38, 39, 43, 44, 45, 46, 148, 149, 150, 37, 151, 51, 55, 56, 57, 152, 153, 154, 42, 155, 67, 156, 157, 158, 159, 160, 161, 162, 54, 163, 76, 77, 78, 164, 165, 166, 167, 168, 169, 170, 171, 172, 173, 174, 175, 176, 177, 178, 69, 70, 71, 803, 804, 805, 806, 807, 827, 828, 829, 830, 831, 821, 822, 823, 824, 825, 826, 846, 847, 848, 849, 850, 851, 852, 853] (by decide +kernel) (by decide +kernel)
set_option maxRecDepth 20000 in
theorem gL_law_X8_columns : GoodIn wsL_law (wsV RL 13 RX8 yX8_columns wsX8_columns) := goodIn_app (goodIn_of _ (by decide +kernel)) ggL_law_X8_columns
set_option maxRecDepth 20000 in
theorem ggL_law_X9_columns : GoodIn wsL_law wsX9_columns := goodIn_r _ [182, 124, 183, 184, 5, 185, 186, 187, 188, 189, 190, 191, 192, 193, 125, 194, 195, 196, 197, 808, 809, 810, 811, 812, 813, 814, 815, 816, 817, 818, 819, 820] (by decide +kernel) (by decide +kernel)
set_option maxRecDepth 20000 in
theorem gL_law_X9_columns : GoodIn wsL_law (wsV RL 17 RX9 yX9_columns wsX9_columns) := goodIn_app (goodIn_of _ (by decide +kernel)) ggL_law_X9_columns
set_option maxRecDepth 20000 in
theorem ggL_law_X8_card : GoodIn wsL_law wsX8_card := goodIn_r _ [201, 15, 19, 134, 135, 2, 136, 202, 203, 204, 166, 167, 168, 14, 169, 38, 39, 205, 206, 207, 37, 208, 57, 137, 138, 139, 18, 140, 88, 87, 86, 85, 89, 141, 142, 64, 143, 144, 145, 146, 147, 43, 44, 45, 46, 148, 149, 150, 151, 51, 55, 56, 152, 153, 154, 42, 155, 67, 156, 157, 158, 159, 160, 161, 162, 54, 163, 76, 77, 78, 164, 165, 209, 210, 211, 212, 213, 214, 215, 216, 803, 804, 805, 806, 807, 821, 822, 823, 824, 825, 826, 846, 847, 848, 849, 827, 828, 829, 830, 831, 850, 851, 852, 853] (by decide +kernel) (by decide +kernel)
set_option maxRecDepth 20000 in
theorem gL_law_X8_card : GoodIn wsL_law (wsV RL 18 RX8 yX8_card wsX8_card) := goodIn_app (goodIn_of _ (by decide +kernel)) ggL_law_X8_card
set_option maxRecDepth 20000 in
theorem ggL_law_X9_card : GoodIn wsL_law wsX9_card := goodIn_r _ [220, 124, 183, 184, 5, 185, 186, 187, 188, 189, 190, 191, 192, 193, 125, 221, 222, 223, 808, 809, 810, 811, 812, 813, 814, 815, 816, 817, 818, 819, 820] (by decide +kernel) (by decide +kernel)
set_option maxRecDepth 20000 in
theorem gL_law_X9_card : GoodIn wsL_law (wsV RL 22 RX9 yX9_card wsX9_card) := goodIn_app (goodIn_of _ (by decide +kernel)) ggL_law_X9_card
set_option maxRecDepth 20000 in
theorem ggL_law_X8_put : GoodIn wsL_law wsX8_put := goodIn_r _ [227, 19, 15, 228, 229, 230, 2, 231, 232, 233, 234, 235, 134, 135, 136, 166, 167, 168, 14, 169, 38, 39, 236, 237, 238, 37, 239, 56, 240, 241, 242, 243, 57, 202, 203, 204, 137, 138, 139, 18, 140, 88, 87, 86, 85, 89, 141, 142, 64, 143, 144, 145, 146, 147, 43, 44, 45, 46, 148, 149, 150, 151, 51, 55, 152, 153, 154, 42, 155, 67, 156, 157, 158, 159, 160, 161, 162, 54, 163, 76, 77, 78, 164, 165, 244, 245, 246, 247, 248, 249, 250, 251, 252, 253, 254, 213, 214, 215, 216, 803, 804, 805, 806, 807, 821, 822, 823, 824, 825, 826, 846, 847, 848, 849, 827, 828, 829, 830, 831, 850, 851, 852, 853] (by decide +kernel) (by decide +kernel)
set_option maxRecDepth 20000 in
theorem gL_law_X8_put : GoodIn wsL_law (wsV RL 23 RX8 yX8_put wsX8_put) := goodIn_app (goodIn_of _ (by decide +kernel)) ggL_law_X8_put
set_option maxRecDepth 20000 in
theorem ggL_law_X9_put : GoodIn wsL_law wsX9_put := goodIn_r _ [258, 124, 183, 184, 5, 185, 186, 187, 188, 259, 260, 261, 262, 263, 264, 265, 266, 189, 190, 191, 192, 193, 125, 221, 222, 223, 808, 809, 810, 811, 812, 813, 814, 815, 816, 817, 818, 819, 820] (by decide +kernel) (by decide +kernel)
set_option maxRecDepth 20000 in
theorem gL_law_X9_put : GoodIn wsL_law (wsV RL 27 RX9 yX9_put wsX9_put) := goodIn_app (goodIn_of _ (by decide +kernel)) ggL_law_X9_put
set_option maxRecDepth 20000 in
theorem ggL_law_X8_drop : GoodIn wsL_law wsX8_drop := goodIn_r _ [270, 15, 19, 134, 135, 2, 136, 166, 167, 168, 14, 169, 38, 39, 240, 241, 242, 37, 243, 57, 137, 138, 139, 18, 140, 88, 87, 86, 85, 89, 141, 142, 64, 143, 144, 145, 146, 147, 43, 44, 45, 46, 148, 149, 150, 151, 51, 55, 56, 152, 153, 154, 42, 155, 67, 156, 157, 158, 159, 160, 161, 162, 54, 163, 76, 77, 78, 164, 165, 271, 272, 273, 274, 254, 213, 214, 215, 216, 803, 804, 805, 806, 807, 821, 822, 823, 824, 825, 826, 846, 847, 848, 849, 827, 828, 829, 830, 831, 850, 851, 852, 853] (by decide +kernel) (by decide +kernel)
set_option maxRecDepth 20000 in
theorem gL_law_X8_drop : GoodIn wsL_law (wsV RL 28 RX8 yX8_drop wsX8_drop) := goodIn_app (goodIn_of _ (by decide +kernel)) ggL_law_X8_drop
set_option maxRecDepth 20000 in
theorem ggL_law_X9_drop : GoodIn wsL_law wsX9_drop := goodIn_r _ [278, 124, 183, 184, 5, 185, 186, 187, 188, 259, 260, 261, 262, 189, 190, 191, 192, 193, 125, 221, 222, 223, 808, 809, 810, 811, 812, 813, 814, 815, 816, 817, 818, 819, 820] (by decide +kernel) (by decide +kernel)
set_option maxRecDepth 20000 in
theorem gL_law_X9_drop : GoodIn wsL_law (wsV RL 31 RX9 yX9_drop wsX9_drop) := goodIn_app (goodIn_of _ (by decide +kernel)) ggL_law_X9_drop
set_option maxRecDepth 20000 in
theorem ggL_law_X8_valueOf : GoodIn wsL_law wsX8_valueOf := goodIn_r _ [282, 15, 228, 229, 230, 2, 231, 232, 233, 234, 235, 134, 135, 136, 166, 167, 168, 14, 169, 38, 39, 236, 237, 238, 37, 239, 56, 240, 241, 242, 243, 57, 283, 249, 250, 251, 51, 252, 253, 254, 157, 158, 42, 159, 67, 803, 804, 805, 806, 807, 821, 822, 823, 824, 825, 826, 846, 847, 848, 849, 850] (by decide +kernel) (by decide +kernel)
set_option maxRecDepth 20000 in
theorem gL_law_X8_valueOf : GoodIn wsL_law (wsV RL 32 RX8 yX8_valueOf wsX8_valueOf) := goodIn_app (goodIn_of _ (by decide +kernel)) ggL_law_X8_valueOf
set_option maxRecDepth 20000 in
theorem ggL_law_X9_valueOf : GoodIn wsL_law wsX9_valueOf := goodIn_r _ [287, 124, 183, 184, 5, 185, 186, 187, 188, 259, 260, 261, 262, 263, 264, 265, 266, 221, 222, 223, 808, 809, 810, 811, 812, 813, 814, 815, 816, 817, 818, 819, 820] (by decide +kernel) (by decide +kernel)
set_option maxRecDepth 20000 in
theorem gL_law_X9_valueOf : GoodIn wsL_law (wsV RL 36 RX9 yX9_valueOf wsX9_valueOf) := goodIn_app (goodIn_of _ (by decide +kernel)) ggL_law_X9_valueOf
set_option maxRecDepth 20000 in
theorem ggL_law_X8_cell : GoodIn wsL_law wsX8_cell := goodIn_r _ [291, 19, 15, 232, 233, 234, 2, 235, 134, 135, 136, 166, 167, 168, 14, 169, 38, 39, 236, 237, 238, 37, 239, 56, 292, 293, 294, 295, 296, 297, 137, 138, 139, 18, 140, 88, 87, 86, 85, 89, 141, 142, 64, 143, 144, 145, 146, 147, 43, 44, 45, 46, 148, 149, 150, 151, 51, 55, 57, 152, 153, 154, 42, 155, 67, 156, 157, 158, 159, 160, 161, 162, 54, 163, 76, 77, 78, 164, 165, 298, 299, 300, 301, 302, 303, 304, 305, 306, 307, 308, 309, 310, 311, 214, 215, 216, 803, 804, 805, 806, 807, 821, 822, 823, 824, 825, 826, 846, 847, 848, 849, 827, 828, 829, 830, 831, 850, 851, 852, 853] (by decide +kernel) (by decide +kernel)
set_option maxRecDepth 20000 in
theorem gL_law_X8_cell : GoodIn wsL_law (wsV RL 37 RX8 yX8_cell wsX8_cell) := goodIn_app (goodIn_of _ (by decide +kernel)) ggL_law_X8_cell
set_option maxRecDepth 20000 in
theorem ggL_law_X9_cell : GoodIn wsL_law wsX9_cell := goodIn_r _ [315, 183, 184, 5, 185, 186, 187, 188, 263, 264, 265, 266, 124, 316, 317, 318, 189, 190, 191, 192, 193, 125, 319, 320, 321, 322, 194, 195, 196, 197, 808, 809, 810, 811, 812, 813, 814, 815, 816, 817, 818, 819, 820] (by decide +kernel) (by decide +kernel)
set_option maxRecDepth 20000 in
theorem gL_law_X9_cell : GoodIn wsL_law (wsV RL 40 RX9 yX9_cell wsX9_cell) := goodIn_app (goodIn_of _ (by decide +kernel)) ggL_law_X9_cell
set_option maxRecDepth 20000 in
theorem ggL_law_X8_clear : GoodIn wsL_law wsX8_clear := goodIn_r _ [326, 19, 15, 134, 135, 2, 136, 137, 138, 139, 18, 140, 88, 87, 86, 85, 89, 141, 142, 64, 143, 144, 145, 146, 14, 147, 38, 39, 43, 44, 45, 46, 148, 149, 150, 37, 151, 51, 55, 56, 57, 152, 153, 154, 42, 155, 67, 156, 157, 158, 159, 160, 161, 162, 54, 163, 76, 77, 78, 164, 165, 166, 167, 168, 169, 298, 299, 300, 301, 327, 328, 329, 330, 306, 331, 175, 176, 177, 178, 69, 70, 71, 803, 804, 805, 806, 807, 827, 828, 829, 830, 831, 821, 822, 823, 824, 825, 826, 846, 847, 848, 849, 850, 851, 852, 853] (by decide +kernel) (by decide +kernel)
set_option maxRecDepth 20000 in
theorem gL_law_X8_clear : GoodIn wsL_law (wsV RL 41 RX8 yX8_clear wsX8_clear) := goodIn_app (goodIn_of _ (by decide +kernel)) ggL_law_X8_clear
set_option maxRecDepth 20000 in
theorem ggL_law_X9_clear : GoodIn wsL_law wsX9_clear := goodIn_r _ [335, 183, 184, 5, 185, 186, 187, 188, 189, 190, 191, 192, 193, 125, 124, 336, 337, 338, 339, 319, 320, 321, 322, 194, 195, 196, 197, 808, 809, 810, 811, 812, 813, 814, 815, 816, 817, 818, 819, 820] (by decide +kernel) (by decide +kernel)
set_option maxRecDepth 20000 in
theorem gL_law_X9_clear : GoodIn wsL_law (wsV RL 45 RX9 yX9_clear wsX9_clear) := goodIn_app (goodIn_of _ (by decide +kernel)) ggL_law_X9_clear
set_option maxRecDepth 20000 in
theorem ggL_law_X8_both : GoodIn wsL_law wsX8_both := goodIn_r _ [343, 19, 15, 134, 135, 2, 136, 137, 138, 139, 18, 140, 88, 87, 86, 85, 89, 141, 142, 64, 143, 144, 145, 146, 14, 147, 38, 39, 43, 44, 45, 46, 148, 149, 150, 37, 151, 51, 55, 56, 57, 152, 153, 154, 42, 155, 67, 156, 157, 158, 159, 160, 161, 162, 54, 163, 76, 77, 78, 164, 165, 344, 345, 346, 347, 803, 804, 805, 806, 807, 827, 828, 829, 830, 831, 821, 822, 823, 824, 825, 826, 846, 847, 848, 849, 850, 851, 852, 853] (by decide +kernel) (by decide +kernel)
set_option maxRecDepth 20000 in
theorem gL_law_X8_both : GoodIn wsL_law (wsV RL 46 RX8 yX8_both wsX8_both) := goodIn_app (goodIn_of _ (by decide +kernel)) ggL_law_X8_both
set_option maxRecDepth 20000 in
theorem ggL_law_X9_both : GoodIn wsL_law wsX9_both := goodIn_r _ [351, 124, 186, 187, 5, 188, 189, 190, 191, 192, 193, 125, 808, 809, 810, 811, 812, 813, 814, 815, 816, 817, 818, 819, 820] (by decide +kernel) (by decide +kernel)
set_option maxRecDepth 20000 in
theorem gL_law_X9_both : GoodIn wsL_law (wsV RL 49 RX9 yX9_both wsX9_both) := goodIn_app (goodIn_of _ (by decide +kernel)) ggL_law_X9_both
set_option maxRecDepth 20000 in
theorem ggL_law_X8_order : GoodIn wsL_law wsX8_order := goodIn_r _ [355, 19, 15, 23, 134, 135, 2, 136, 137, 138, 139, 18, 140, 88, 87, 86, 85, 89, 141, 142, 64, 143, 144, 145, 146, 14, 147, 38, 39, 43, 44, 45, 46, 148, 149, 150, 37, 151, 51, 55, 56, 57, 152, 153, 154, 42, 155, 67, 156, 157, 158, 159, 160, 161, 162, 54, 163, 76, 77, 78, 164, 165, 356, 357, 358, 359, 360, 214, 215, 216, 361, 362, 363, 22, 364, 98, 100, 95, 365, 366, 367, 368, 99, 97, 369, 69, 70, 71, 370, 371, 372, 373, 374, 299, 300, 301, 375, 376, 377, 378, 379, 237, 238, 239, 380, 381, 382, 383, 384, 303, 304, 305, 306, 385, 386, 387, 388, 389, 390, 167, 168, 169, 391, 206, 207, 208, 392, 393, 394, 395, 396, 397, 398, 399, 400, 401, 402, 403, 404, 405, 249, 250, 251, 252, 241, 242, 243, 253, 254, 406, 407, 408, 409, 410, 803, 804, 805, 806, 807, 827, 828, 829, 830, 831, 821, 822, 823, 824, 825, 826, 846, 847, 848, 849, 850, 851, 852, 853, 832, 833, 834, 835, 836, 837] (by decide +kernel) (by decide +kernel)
set_option maxRecDepth 20000 in
theorem gL_law_X8_order : GoodIn wsL_law (wsV RL 50 RX8 yX8_order wsX8_order) := goodIn_app (goodIn_of _ (by decide +kernel)) ggL_law_X8_order
set_option maxRecDepth 20000 in
theorem ggL_law_X9_order : GoodIn wsL_law wsX9_order := goodIn_r _ [414, 124, 415, 186, 187, 5, 188, 189, 190, 191, 192, 193, 125, 416, 417, 418, 419, 420, 421, 422, 423, 424, 425, 426, 427, 263, 264, 265, 266, 428, 429, 430, 431, 319, 320, 321, 322, 432, 433, 434, 435, 221, 222, 223, 436, 437, 438, 439, 440, 441, 442, 443, 444, 445, 446, 127, 128, 447, 448, 449, 450, 808, 809, 810, 811, 812, 813, 814, 815, 816, 817, 818, 819, 820] (by decide +kernel) (by decide +kernel)
set_option maxRecDepth 20000 in
theorem gL_law_X9_order : GoodIn wsL_law (wsV RL 53 RX9 yX9_order wsX9_order) := goodIn_app (goodIn_of _ (by decide +kernel)) ggL_law_X9_order
set_option maxRecDepth 20000 in
theorem ggL_law_X8_show : GoodIn wsL_law wsX8_show := goodIn_r _ [454, 19, 15, 23, 137, 138, 139, 18, 140, 88, 87, 86, 85, 89, 141, 142, 64, 143, 144, 145, 146, 14, 147, 38, 39, 43, 44, 45, 46, 148, 149, 150, 37, 151, 51, 55, 56, 57, 152, 153, 154, 42, 155, 67, 156, 157, 158, 159, 160, 161, 162, 54, 163, 76, 77, 78, 164, 165, 455, 456, 457, 458, 459, 460, 461, 22, 462, 96, 98, 95, 463, 362, 363, 364, 100, 365, 366, 367, 368, 99, 97, 369, 69, 70, 71, 370, 371, 372, 373, 374, 299, 300, 301, 375, 376, 377, 378, 379, 237, 238, 239, 380, 381, 382, 383, 384, 303, 304, 305, 306, 385, 386, 387, 388, 389, 214, 215, 216, 390, 167, 168, 169, 391, 206, 207, 208, 392, 393, 394, 395, 396, 397, 398, 399, 400, 401, 402, 403, 404, 405, 249, 250, 251, 252, 241, 242, 243, 253, 254, 406, 407, 408, 409, 410, 464, 465, 466, 467, 468, 469, 470, 471, 472, 473, 474, 475, 476, 477, 478, 479, 480, 481, 803, 804, 805, 806, 807, 827, 828, 829, 830, 831, 821, 822, 823, 824, 825, 826, 846, 847, 848, 849, 850, 851, 852, 853, 832, 833, 834, 835, 836, 837] (by decide +kernel) (by decide +kernel)
set_option maxRecDepth 20000 in
theorem gL_law_X8_show : GoodIn wsL_law (wsV RL 54 RX8 yX8_show wsX8_show) := goodIn_app (goodIn_of _ (by decide +kernel)) ggL_law_X8_show
set_option maxRecDepth 20000 in
theorem ggL_law_X9_show : GoodIn wsL_law wsX9_show := goodIn_r _ [485, 124, 186, 187, 5, 188, 189, 190, 191, 192, 193, 125, 486, 487, 488, 489, 415, 416, 417, 418, 419, 420, 421, 422, 423, 424, 425, 426, 427, 263, 264, 265, 266, 428, 429, 430, 431, 319, 320, 321, 322, 432, 433, 434, 435, 221, 222, 223, 436, 437, 438, 439, 440, 441, 442, 443, 444, 445, 446, 127, 128, 447, 448, 449, 450, 490, 491, 492, 493, 808, 809, 810, 811, 812, 813, 814, 815, 816, 817, 818, 819, 820] (by decide +kernel) (by decide +kernel)
set_option maxRecDepth 20000 in
theorem gL_law_X9_show : GoodIn wsL_law (wsV RL 57 RX9 yX9_show wsX9_show) := goodIn_app (goodIn_of _ (by decide +kernel)) ggL_law_X9_show
set_option maxRecDepth 20000 in
theorem ggL_law_X8_cellOf : GoodIn wsL_law wsX8_cellOf := goodIn_r _ [497, 15, 232, 233, 234, 2, 235, 134, 135, 136, 166, 167, 168, 14, 169, 38, 39, 236, 237, 238, 37, 239, 56, 298, 299, 300, 301, 55, 302, 303, 304, 54, 305, 76, 306, 157, 158, 42, 159, 67, 498, 386, 387, 388, 77, 499, 500, 501, 502, 78, 503, 504, 505, 506, 57, 248, 249, 250, 251, 51, 252, 241, 242, 243, 253, 254, 507, 407, 408, 409, 803, 804, 805, 806, 807, 821, 822, 823, 824, 825, 826, 846, 847, 848, 849, 851, 852, 853, 850] (by decide +kernel) (by decide +kernel)
set_option maxRecDepth 20000 in
theorem gL_law_X8_cellOf : GoodIn wsL_law (wsV RL 58 RX8 yX8_cellOf wsX8_cellOf) := goodIn_app (goodIn_of _ (by decide +kernel)) ggL_law_X8_cellOf
set_option maxRecDepth 20000 in
theorem ggL_law_X9_cellOf : GoodIn wsL_law wsX9_cellOf := goodIn_r _ [511, 124, 183, 184, 5, 185, 186, 187, 188, 263, 264, 265, 266, 319, 320, 321, 322, 221, 222, 223, 436, 437, 438, 808, 809, 810, 811, 812, 813, 814, 815, 816, 817, 818, 819, 820] (by decide +kernel) (by decide +kernel)
set_option maxRecDepth 20000 in
theorem gL_law_X9_cellOf : GoodIn wsL_law (wsV RL 61 RX9 yX9_cellOf wsX9_cellOf) := goodIn_app (goodIn_of _ (by decide +kernel)) ggL_law_X9_cellOf
set_option maxRecDepth 20000 in
theorem ggL_law_X8_many : GoodIn wsL_law wsX8_many := goodIn_r _ [515, 23, 361, 362, 363, 22, 364, 98, 100, 95, 365, 366, 367, 368, 99, 97, 369, 69, 70, 42, 71, 67, 370, 371, 372, 14, 373, 38, 39, 374, 299, 300, 37, 301, 55, 375, 376, 377, 378, 379, 237, 238, 239, 56, 380, 381, 382, 383, 45, 384, 303, 304, 54, 305, 76, 306, 157, 158, 159, 385, 386, 387, 388, 77, 389, 214, 215, 216, 390, 167, 168, 169, 391, 206, 207, 208, 57, 392, 393, 394, 395, 396, 397, 398, 399, 400, 401, 402, 403, 404, 405, 249, 250, 251, 51, 252, 241, 242, 243, 253, 254, 406, 407, 408, 409, 78, 410, 803, 804, 805, 806, 807, 832, 833, 834, 835, 836, 837, 850, 821, 822, 823, 824, 825, 826, 846, 847, 848, 849, 851, 852, 853] (by decide +kernel) (by decide +kernel)
set_option maxRecDepth 20000 in
theorem gL_law_X8_many : GoodIn wsL_law (wsV RL 62 RX8 yX8_many wsX8_many) := goodIn_app (goodIn_of _ (by decide +kernel)) ggL_law_X8_many
set_option maxRecDepth 20000 in
theorem ggL_law_X9_many : GoodIn wsL_law wsX9_many := goodIn_r _ [519, 415, 416, 417, 418, 5, 419, 124, 420, 421, 422, 423, 424, 425, 426, 427, 263, 264, 265, 266, 428, 429, 430, 431, 319, 320, 321, 322, 432, 433, 434, 435, 221, 222, 223, 436, 437, 438, 186, 187, 188, 439, 440, 441, 442, 443, 444, 445, 446, 127, 128, 447, 448, 449, 450, 808, 809, 810, 811, 812, 813, 814, 815, 816, 817, 818, 819, 820] (by decide +kernel) (by decide +kernel)
set_option maxRecDepth 20000 in
theorem gL_law_X9_many : GoodIn wsL_law (wsV RL 66 RX9 yX9_many wsX9_many) := goodIn_app (goodIn_of _ (by decide +kernel)) ggL_law_X9_many
set_option maxRecDepth 20000 in
theorem ggL_law_X8_row : GoodIn wsL_law wsX8_row := goodIn_r _ [523, 23, 15, 524, 525, 2, 526, 134, 135, 136, 361, 362, 363, 22, 364, 98, 100, 95, 365, 366, 367, 368, 99, 97, 369, 69, 70, 42, 71, 67, 370, 371, 372, 14, 373, 38, 39, 374, 299, 300, 37, 301, 55, 375, 376, 377, 378, 379, 237, 238, 239, 56, 380, 381, 382, 383, 45, 384, 303, 304, 54, 305, 76, 306, 157, 158, 159, 385, 386, 387, 388, 77, 389, 214, 215, 216, 390, 167, 168, 169, 391, 206, 207, 208, 57, 392, 393, 394, 395, 396, 397, 398, 399, 400, 401, 402, 403, 404, 405, 249, 250, 251, 51, 252, 241, 242, 243, 253, 254, 406, 407, 408, 409, 78, 410, 527, 528, 529, 530, 531, 532, 533, 534, 535, 536, 537, 538, 539, 540, 541, 542, 43, 543, 544, 545, 546, 547, 44, 548, 549, 550, 551, 552, 553, 554, 803, 804, 805, 806, 807, 832, 833, 834, 835, 836, 837, 850, 821, 822, 823, 824, 825, 826, 846, 847, 848, 849, 851, 852, 853] (by decide +kernel) (by decide +kernel)
set_option maxRecDepth 20000 in
theorem gL_law_X8_row : GoodIn wsL_law (wsV RL 67 RX8 yX8_row wsX8_row) := goodIn_app (goodIn_of _ (by decide +kernel)) ggL_law_X8_row
set_option maxRecDepth 20000 in
theorem ggL_law_X9_row : GoodIn wsL_law wsX9_row := goodIn_r _ [558, 415, 124, 127, 128, 186, 187, 5, 188, 416, 417, 418, 419, 420, 421, 422, 423, 424, 425, 426, 427, 263, 264, 265, 266, 428, 429, 430, 431, 319, 320, 321, 322, 432, 433, 434, 435, 221, 222, 223, 436, 437, 438, 439, 440, 441, 442, 443, 444, 445, 446, 447, 448, 449, 450, 808, 809, 810, 811, 812, 813, 814, 815, 816, 817, 818, 819, 820] (by decide +kernel) (by decide +kernel)
set_option maxRecDepth 20000 in
theorem gL_law_X9_row : GoodIn wsL_law (wsV RL 70 RX9 yX9_row wsX9_row) := goodIn_app (goodIn_of _ (by decide +kernel)) ggL_law_X9_row
set_option maxRecDepth 20000 in
theorem ggL_law_X8_total : GoodIn wsL_law wsX8_total := goodIn_r _ [562, 15, 23, 553, 376, 377, 14, 378, 38, 39, 379, 237, 238, 37, 239, 56, 380, 381, 382, 383, 45, 563, 564, 565, 22, 566, 96, 98, 100, 95, 567, 142, 64, 143, 568, 63, 65, 463, 362, 363, 364, 365, 366, 367, 368, 99, 97, 369, 69, 70, 42, 71, 67, 370, 371, 372, 373, 374, 299, 300, 301, 55, 375, 384, 303, 304, 54, 305, 76, 306, 157, 158, 159, 385, 386, 387, 388, 77, 389, 214, 215, 216, 390, 167, 168, 169, 391, 206, 207, 208, 57, 392, 393, 394, 395, 396, 397, 398, 399, 400, 401, 402, 403, 404, 405, 249, 250, 251, 51, 252, 241, 242, 243, 253, 254, 406, 407, 408, 409, 78, 410, 478, 479, 480, 481, 803, 804, 805, 806, 807, 821, 822, 823, 824, 825, 826, 846, 847, 848, 849, 832, 833, 834, 835, 836, 837, 850, 851, 852, 853] (by decide +kernel) (by decide +kernel)
set_option maxRecDepth 20000 in
theorem gL_law_X8_total : GoodIn wsL_law (wsV RL 71 RX8 yX8_total wsX8_total) := goodIn_app (goodIn_of _ (by decide +kernel)) ggL_law_X8_total
set_option maxRecDepth 20000 in
theorem ggL_law_X9_total : GoodIn wsL_law wsX9_total := goodIn_r _ [572, 415, 127, 128, 186, 187, 5, 188, 424, 425, 426, 427, 124, 263, 264, 265, 266, 416, 417, 418, 419, 420, 421, 422, 423, 428, 429, 430, 431, 319, 320, 321, 322, 432, 433, 434, 435, 221, 222, 223, 436, 437, 438, 439, 440, 441, 442, 443, 444, 445, 446, 447, 448, 449, 450, 573, 574, 575, 576, 808, 809, 810, 811, 812, 813, 814, 815, 816, 817, 818, 819, 820] (by decide +kernel) (by decide +kernel)
set_option maxRecDepth 20000 in
theorem gL_law_X9_total : GoodIn wsL_law (wsV RL 74 RX9 yX9_total wsX9_total) := goodIn_app (goodIn_of _ (by decide +kernel)) ggL_law_X9_total
set_option maxRecDepth 20000 in
theorem ggL_law_X8_unlike : GoodIn wsL_law wsX8_unlike := goodIn_r _ [580, 23, 459, 460, 461, 22, 462, 96, 98, 95, 463, 362, 363, 364, 100, 365, 366, 367, 368, 99, 97, 369, 69, 70, 42, 71, 67, 370, 371, 372, 14, 373, 38, 39, 374, 299, 300, 37, 301, 55, 375, 376, 377, 378, 379, 237, 238, 239, 56, 380, 381, 382, 383, 45, 384, 303, 304, 54, 305, 76, 306, 157, 158, 159, 385, 386, 387, 388, 77, 389, 214, 215, 216, 390, 167, 168, 169, 391, 206, 207, 208, 57, 392, 393, 394, 395, 396, 397, 398, 399, 400, 401, 402, 403, 404, 405, 249, 250, 251, 51, 252, 241, 242, 243, 253, 254, 406, 407, 408, 409, 78, 410, 464, 465, 466, 467, 468, 469, 470, 471, 472, 473, 474, 475, 476, 46, 477, 478, 479, 480, 481, 803, 804, 805, 806, 807, 832, 833, 834, 835, 836, 837, 850, 821, 822, 823, 824, 825, 826, 846, 847, 848, 849, 851, 852, 853] (by decide +kernel) (by decide +kernel)
set_option maxRecDepth 20000 in
theorem gL_law_X8_unlike : GoodIn wsL_law (wsV RL 75 RX8 yX8_unlike wsX8_unlike) := goodIn_app (goodIn_of _ (by decide +kernel)) ggL_law_X8_unlike
set_option maxRecDepth 20000 in
theorem ggL_law_X9_unlike : GoodIn wsL_law wsX9_unlike := goodIn_r _ [584, 486, 487, 488, 5, 489, 415, 416, 417, 418, 419, 124, 420, 421, 422, 423, 424, 425, 426, 427, 263, 264, 265, 266, 428, 429, 430, 431, 319, 320, 321, 322, 432, 433, 434, 435, 221, 222, 223, 436, 437, 438, 186, 187, 188, 439, 440, 441, 442, 443, 444, 445, 446, 127, 128, 447, 448, 449, 450, 490, 491, 492, 493, 808, 809, 810, 811, 812, 813, 814, 815, 816, 817, 818, 819, 820] (by decide +kernel) (by decide +kernel)
set_option maxRecDepth 20000 in
theorem gL_law_X9_unlike : GoodIn wsL_law (wsV RL 78 RX9 yX9_unlike wsX9_unlike) := goodIn_app (goodIn_of _ (by decide +kernel)) ggL_law_X9_unlike
set_option maxRecDepth 20000 in
theorem ggL_law_X8_cards : GoodIn wsL_law wsX8_cards := goodIn_r _ [588, 15, 23, 134, 135, 2, 136, 548, 381, 382, 14, 383, 45, 589, 590, 591, 22, 592, 98, 95, 463, 362, 363, 364, 100, 365, 366, 367, 368, 99, 97, 369, 69, 70, 42, 71, 67, 370, 371, 372, 373, 38, 39, 374, 299, 300, 37, 301, 55, 375, 376, 377, 378, 379, 237, 238, 239, 56, 380, 384, 303, 304, 54, 305, 76, 306, 157, 158, 159, 385, 386, 387, 388, 77, 389, 214, 215, 216, 390, 167, 168, 169, 391, 206, 207, 208, 57, 392, 393, 394, 395, 396, 397, 398, 399, 400, 401, 402, 403, 404, 405, 249, 250, 251, 51, 252, 241, 242, 243, 253, 254, 406, 407, 408, 409, 78, 410, 803, 804, 805, 806, 807, 821, 822, 823, 824, 825, 826, 832, 833, 834, 835, 836, 837, 850, 846, 847, 848, 849, 851, 852, 853] (by decide +kernel) (by decide +kernel)
set_option maxRecDepth 20000 in
theorem gL_law_X8_cards : GoodIn wsL_law (wsV RL 79 RX8 yX8_cards wsX8_cards) := goodIn_app (goodIn_of _ (by decide +kernel)) ggL_law_X8_cards
set_option maxRecDepth 20000 in
theorem ggL_law_X9_cards : GoodIn wsL_law wsX9_cards := goodIn_r _ [596, 124, 415, 127, 128, 183, 184, 5, 185, 186, 187, 188, 416, 417, 418, 419, 420, 421, 422, 423, 424, 425, 426, 427, 263, 264, 265, 266, 428, 429, 430, 431, 319, 320, 321, 322, 432, 433, 434, 435, 221, 222, 223, 436, 437, 438, 439, 440, 441, 442, 443, 444, 445, 446, 447, 448, 449, 450, 808, 809, 810, 811, 812, 813, 814, 815, 816, 817, 818, 819, 820] (by decide +kernel) (by decide +kernel)
set_option maxRecDepth 20000 in
theorem gL_law_X9_cards : GoodIn wsL_law (wsV RL 82 RX9 yX9_cards wsX9_cards) := goodIn_app (goodIn_of _ (by decide +kernel)) ggL_law_X9_cards
set_option maxRecDepth 20000 in
theorem ggL_law_X8_why : GoodIn wsL_law wsX8_why := goodIn_r _ [600, 15, 23, 548, 381, 382, 14, 383, 45, 166, 167, 168, 169, 38, 39, 240, 241, 242, 37, 243, 57, 601, 602, 603, 22, 604, 365, 366, 367, 368, 99, 97, 100, 369, 69, 70, 42, 71, 67, 370, 371, 372, 373, 374, 299, 300, 301, 55, 375, 376, 377, 378, 379, 237, 238, 239, 56, 380, 384, 303, 304, 54, 305, 76, 306, 157, 158, 159, 385, 386, 387, 388, 77, 389, 214, 215, 216, 393, 394, 395, 396, 397, 398, 399, 400, 401, 402, 403, 404, 405, 249, 250, 251, 51, 252, 253, 254, 406, 407, 408, 409, 78, 410, 803, 804, 805, 806, 807, 821, 822, 823, 824, 825, 826, 846, 847, 848, 849, 832, 833, 834, 835, 836, 837, 850, 851, 852, 853] (by decide +kernel) (by decide +kernel)
set_option maxRecDepth 20000 in
theorem gL_law_X8_why : GoodIn wsL_law (wsV RL 83 RX8 yX8_why wsX8_why) := goodIn_app (goodIn_of _ (by decide +kernel)) ggL_law_X8_why
set_option maxRecDepth 20000 in
theorem ggL_law_X9_why : GoodIn wsL_law wsX9_why := goodIn_r _ [608, 124, 259, 260, 261, 5, 262, 420, 421, 422, 423, 424, 425, 426, 427, 263, 264, 265, 266, 428, 429, 430, 431, 319, 320, 321, 322, 432, 433, 434, 435, 221, 222, 223, 436, 437, 438, 186, 187, 188, 439, 440, 441, 442, 808, 809, 810, 811, 812, 813, 814, 815, 816, 817, 818, 819, 820] (by decide +kernel) (by decide +kernel)
set_option maxRecDepth 20000 in
theorem gL_law_X9_why : GoodIn wsL_law (wsV RL 86 RX9 yX9_why wsX9_why) := goodIn_app (goodIn_of _ (by decide +kernel)) ggL_law_X9_why
set_option maxRecDepth 20000 in
theorem ggL_law_X8_tightest : GoodIn wsL_law wsX8_tightest := goodIn_r _ [612, 23, 15, 134, 135, 2, 136, 361, 362, 363, 22, 364, 98, 100, 95, 365, 366, 367, 368, 99, 97, 369, 69, 70, 42, 71, 67, 370, 371, 372, 14, 373, 38, 39, 374, 299, 300, 37, 301, 55, 375, 376, 377, 378, 379, 237, 238, 239, 56, 380, 381, 382, 383, 45, 384, 303, 304, 54, 305, 76, 306, 157, 158, 159, 385, 386, 387, 388, 77, 389, 214, 215, 216, 390, 167, 168, 169, 391, 206, 207, 208, 57, 392, 393, 394, 395, 396, 397, 398, 399, 400, 401, 402, 403, 404, 405, 249, 250, 251, 51, 252, 241, 242, 243, 253, 254, 406, 407, 408, 409, 78, 410, 553, 803, 804, 805, 806, 807, 832, 833, 834, 835, 836, 837, 850, 821, 822, 823, 824, 825, 826, 846, 847, 848, 849, 851, 852, 853] (by decide +kernel) (by decide +kernel)
set_option maxRecDepth 20000 in
theorem gL_law_X8_tightest : GoodIn wsL_law (wsV RL 87 RX8 yX8_tightest wsX8_tightest) := goodIn_app (goodIn_of _ (by decide +kernel)) ggL_law_X8_tightest
set_option maxRecDepth 20000 in
theorem ggL_law_X9_tightest : GoodIn wsL_law wsX9_tightest := goodIn_r _ [616, 124, 186, 187, 5, 188, 617, 517, 518, 519, 415, 416, 417, 418, 419, 420, 421, 422, 423, 424, 425, 426, 427, 263, 264, 265, 266, 428, 429, 430, 431, 319, 320, 321, 322, 432, 433, 434, 435, 221, 222, 223, 436, 437, 438, 439, 440, 441, 442, 443, 444, 445, 446, 127, 128, 447, 448, 449, 450, 808, 809, 810, 811, 812, 813, 814, 815, 816, 817, 818, 819, 820] (by decide +kernel) (by decide +kernel)
set_option maxRecDepth 20000 in
theorem gL_law_X9_tightest : GoodIn wsL_law (wsV RL 90 RX9 yX9_tightest wsX9_tightest) := goodIn_app (goodIn_of _ (by decide +kernel)) ggL_law_X9_tightest
set_option maxRecDepth 20000 in
theorem ggL_law_X8_count : GoodIn wsL_law wsX8_count := goodIn_r _ [621, 15, 19, 27, 166, 167, 168, 14, 169, 38, 39, 205, 206, 207, 37, 208, 57, 622, 623, 624, 625, 56, 548, 381, 382, 383, 45, 298, 299, 300, 301, 55, 327, 328, 329, 54, 330, 76, 306, 157, 158, 42, 159, 67, 626, 627, 628, 629, 46, 630, 631, 632, 18, 633, 89, 634, 635, 636, 26, 637, 107, 638, 540, 541, 542, 43, 543, 639, 545, 546, 547, 44, 803, 804, 805, 806, 807, 821, 822, 823, 824, 825, 826, 846, 847, 848, 849, 851, 852, 853, 850, 827, 828, 829, 830, 831, 838, 839] (by decide +kernel) (by decide +kernel)
set_option maxRecDepth 20000 in
theorem gL_law_X8_count : GoodIn wsL_law (wsV RL 91 RX8 yX8_count wsX8_count) := goodIn_app (goodIn_of _ (by decide +kernel)) ggL_law_X8_count
set_option maxRecDepth 20000 in
theorem ggL_law_X9_count : GoodIn wsL_law wsX9_count := goodIn_r _ [643, 124, 193, 644, 336, 337, 338, 5, 339, 319, 320, 321, 322, 808, 809, 810, 811, 812, 813, 814, 815, 816, 817, 818, 819, 820] (by decide +kernel) (by decide +kernel)
set_option maxRecDepth 20000 in
theorem gL_law_X9_count : GoodIn wsL_law (wsV RL 94 RX9 yX9_count wsX9_count) := goodIn_app (goodIn_of _ (by decide +kernel)) ggL_law_X9_count
set_option maxRecDepth 20000 in
theorem ggL_law_X8_undo : GoodIn wsL_law wsX8_undo := goodIn_r _ [648, 19, 15, 630, 631, 632, 18, 633, 89, 649, 650, 651, 652, 85, 86, 87, 88, 653, 63, 64, 65, 144, 145, 146, 14, 147, 38, 39, 43, 44, 45, 46, 148, 149, 150, 37, 151, 51, 55, 56, 57, 152, 153, 154, 42, 155, 67, 156, 157, 158, 159, 160, 161, 162, 54, 163, 76, 77, 78, 164, 165, 803, 804, 805, 806, 807, 827, 828, 829, 830, 831, 821, 822, 823, 824, 825, 826, 846, 847, 848, 849, 850, 851, 852, 853] (by decide +kernel) (by decide +kernel)
set_option maxRecDepth 20000 in
theorem gL_law_X8_undo : GoodIn wsL_law (wsV RL 95 RX8 yX8_undo wsX8_undo) := goodIn_app (goodIn_of _ (by decide +kernel)) ggL_law_X8_undo
set_option maxRecDepth 20000 in
theorem ggL_law_X9_undo : GoodIn wsL_law wsX9_undo := goodIn_r _ [657, 193, 124, 125, 808, 809, 810, 811, 812, 813, 814, 815, 816, 817, 818, 819, 820] (by decide +kernel) (by decide +kernel)
set_option maxRecDepth 20000 in
theorem gL_law_X9_undo : GoodIn wsL_law (wsV RL 98 RX9 yX9_undo wsX9_undo) := goodIn_app (goodIn_of _ (by decide +kernel)) ggL_law_X9_undo
set_option maxRecDepth 20000 in
theorem ggL_law_X8_type : GoodIn wsL_law wsX8_type := goodIn_r _ [661, 27, 634, 635, 636, 26, 637, 107, 662, 663, 664, 665, 106, 666, 214, 215, 42, 216, 67, 803, 804, 805, 806, 807, 838, 839, 850] (by decide +kernel) (by decide +kernel)
set_option maxRecDepth 20000 in
theorem gL_law_X8_type : GoodIn wsL_law (wsV RL 99 RX8 yX8_type wsX8_type) := goodIn_app (goodIn_of _ (by decide +kernel)) ggL_law_X8_type
set_option maxRecDepth 20000 in
theorem ggL_law_X9_type : GoodIn wsL_law wsX9_type := goodIn_r _ [670, 644, 126, 186, 187, 5, 188, 808, 809, 810, 811, 812, 813, 814, 815, 816, 817, 818, 819, 820] (by decide +kernel) (by decide +kernel)
set_option maxRecDepth 20000 in
theorem gL_law_X9_type : GoodIn wsL_law (wsV RL 102 RX9 yX9_type wsX9_type) := goodIn_app (goodIn_of _ (by decide +kernel)) ggL_law_X9_type
set_option maxRecDepth 20000 in
theorem ggL_law_X8_clearText : GoodIn wsL_law wsX8_clearText := goodIn_r _ [674, 27, 675, 676, 677, 26, 678, 107, 803, 804, 805, 806, 807, 838, 839] (by decide +kernel) (by decide +kernel)
set_option maxRecDepth 20000 in
theorem gL_law_X8_clearText : GoodIn wsL_law (wsV RL 103 RX8 yX8_clearText wsX8_clearText) := goodIn_app (goodIn_of _ (by decide +kernel)) ggL_law_X8_clearText
set_option maxRecDepth 20000 in
theorem ggL_law_X9_clearText : GoodIn wsL_law wsX9_clearText := goodIn_r _ [682, 644, 808, 809, 810, 811, 812, 813, 814, 815, 816, 817, 818, 819, 820] (by decide +kernel) (by decide +kernel)
set_option maxRecDepth 20000 in
theorem gL_law_X9_clearText : GoodIn wsL_law (wsV RL 106 RX9 yX9_clearText wsX9_clearText) := goodIn_app (goodIn_of _ (by decide +kernel)) ggL_law_X9_clearText
set_option maxRecDepth 20000 in
theorem ggL_law_X8_fault : GoodIn wsL_law wsX8_fault := goodIn_r _ [686, 31, 134, 135, 2, 136, 687, 688, 689, 30, 690, 114, 115, 116, 117, 118, 119, 691, 175, 176, 54, 177, 76, 77, 78, 178, 69, 70, 42, 71, 67, 692, 693, 694, 26, 695, 107, 106, 696, 157, 158, 159, 697, 698, 699, 700, 701, 702, 703, 704, 705, 706, 707, 708, 709, 710, 711, 712, 713, 714, 715, 716, 308, 309, 310, 311, 214, 215, 216, 717, 718, 719, 720, 721, 722, 723, 724, 725, 726, 727, 728, 729, 730, 731, 732, 635, 636, 637, 733, 734, 735, 736, 737, 738, 739, 740, 741, 803, 804, 805, 806, 807, 840, 841, 842, 843, 844, 845, 851, 852, 853, 850, 838, 839] (by decide +kernel) (by decide +kernel)
set_option maxRecDepth 20000 in
theorem gL_law_X8_fault : GoodIn wsL_law (wsV RL 107 RX8 yX8_fault wsX8_fault) := goodIn_app (goodIn_of _ (by decide +kernel)) ggL_law_X8_fault
set_option maxRecDepth 20000 in
theorem ggL_law_X9_fault : GoodIn wsL_law wsX9_fault := goodIn_r _ [745, 746, 747, 186, 187, 5, 188, 748, 749, 750, 751, 752, 644, 753, 754, 755, 756, 757, 126, 758, 759, 760, 761, 762, 763, 764, 765, 766, 767, 768, 769, 129, 770, 771, 772, 773, 774, 775, 776, 777, 778, 779, 780, 781, 782, 783, 784, 785, 808, 809, 810, 811, 812, 813, 814, 815, 816, 817, 818, 819, 820] (by decide +kernel) (by decide +kernel)
set_option maxRecDepth 20000 in
theorem gL_law_X9_fault : GoodIn wsL_law (wsV RL 110 RX9 yX9_fault wsX9_fault) := goodIn_app (goodIn_of _ (by decide +kernel)) ggL_law_X9_fault
set_option maxRecDepth 20000 in
theorem ggL_law_X8_read : GoodIn wsL_law wsX8_read := goodIn_r _ [789, 31, 15, 19, 23, 134, 135, 2, 136, 687, 688, 689, 30, 690, 114, 115, 116, 117, 118, 119, 691, 175, 176, 54, 177, 76, 77, 78, 178, 69, 70, 42, 71, 67, 692, 693, 694, 26, 695, 107, 106, 696, 157, 158, 159, 697, 698, 699, 700, 701, 702, 703, 704, 705, 706, 707, 708, 709, 710, 711, 712, 713, 714, 715, 716, 308, 309, 310, 311, 214, 215, 216, 717, 718, 719, 720, 721, 722, 723, 724, 725, 726, 727, 728, 729, 730, 731, 732, 635, 636, 637, 733, 790, 791, 792, 793, 166, 167, 168, 14, 169, 38, 39, 622, 623, 624, 37, 625, 56, 137, 138, 139, 18, 140, 88, 87, 86, 85, 89, 141, 142, 64, 143, 144, 145, 146, 147, 43, 44, 45, 46, 148, 149, 150, 151, 51, 55, 57, 152, 153, 154, 155, 156, 160, 161, 162, 163, 164, 165, 298, 299, 300, 301, 794, 795, 796, 797, 798, 361, 362, 363, 22, 364, 98, 100, 95, 365, 366, 367, 368, 99, 97, 369, 370, 371, 372, 373, 374, 375, 376, 377, 378, 379, 237, 238, 239, 380, 381, 382, 383, 384, 303, 304, 305, 306, 385, 386, 387, 388, 389, 390, 391, 206, 207, 208, 392, 393, 394, 395, 396, 397, 398, 399, 400, 401, 402, 403, 404, 405, 249, 250, 251, 252, 241, 242, 243, 253, 254, 406, 407, 408, 409, 410, 803, 804, 805, 806, 807, 840, 841, 842, 843, 844, 845, 851, 852, 853, 850, 838, 839, 821, 822, 823, 824, 825, 826, 846, 847, 848, 849, 827, 828, 829, 830, 831, 832, 833, 834, 835, 836, 837] (by decide +kernel) (by decide +kernel)
set_option maxRecDepth 20000 in
theorem gL_law_X8_read : GoodIn wsL_law (wsV RL 111 RX8 yX8_read wsX8_read) := goodIn_app (goodIn_of _ (by decide +kernel)) ggL_law_X8_read
set_option maxRecDepth 20000 in
theorem ggL_law_X9_read : GoodIn wsL_law wsX9_read := goodIn_r _ [802, 752, 124, 129, 415, 183, 184, 5, 185, 186, 187, 188, 748, 749, 750, 751, 746, 644, 753, 754, 755, 756, 757, 126, 758, 759, 760, 761, 762, 763, 764, 765, 766, 767, 768, 769, 770, 771, 772, 773, 774, 775, 776, 777, 747, 778, 779, 780, 781, 782, 783, 784, 785, 189, 190, 191, 192, 193, 125, 194, 195, 196, 197, 416, 417, 418, 419, 420, 421, 422, 423, 424, 425, 426, 427, 263, 264, 265, 266, 428, 429, 430, 431, 319, 320, 321, 322, 432, 433, 434, 435, 221, 222, 223, 436, 437, 438, 439, 440, 441, 442, 443, 444, 445, 446, 127, 128, 447, 448, 449, 450, 808, 809, 810, 811, 812, 813, 814, 815, 816, 817, 818, 819, 820] (by decide +kernel) (by decide +kernel)
set_option maxRecDepth 20000 in
theorem gL_law_X9_read : GoodIn wsL_law (wsV RL 114 RX9 yX9_read wsX9_read) := goodIn_app (goodIn_of _ (by decide +kernel)) ggL_law_X9_read
theorem dL_law_0 : decode cL_law 0 = .ok (.new 7, 3) := by decide +kernel
theorem dL_law_3 : decode cL_law 3 = .ok (.dup, 1) := by decide +kernel
theorem dL_law_4 : decode cL_law 4 = .ok (.invokespecial 9, 3) := by decide +kernel
theorem dL_law_7 : decode cL_law 7 = .ok (.astore_n 1, 1) := by decide +kernel
theorem dL_law_8 : decode cL_law 8 = .ok (.new 10, 3) := by decide +kernel
theorem dL_law_11 : decode cL_law 11 = .ok (.dup, 1) := by decide +kernel
theorem dL_law_12 : decode cL_law 12 = .ok (.invokespecial 12, 3) := by decide +kernel
theorem dL_law_15 : decode cL_law 15 = .ok (.astore_n 2, 1) := by decide +kernel
theorem dL_law_16 : decode cL_law 16 = .ok (.iconst 0, 1) := by decide +kernel
theorem dL_law_17 : decode cL_law 17 = .ok (.istore_n 3, 1) := by decide +kernel
theorem dL_law_18 : decode cL_law 18 = .ok (.iload_n 3, 1) := by decide +kernel
theorem dL_law_19 : decode cL_law 19 = .ok (.aload_n 0, 1) := by decide +kernel
theorem dL_law_20 : decode cL_law 20 = .ok (.arraylength, 1) := by decide +kernel
theorem dL_law_21 : decode cL_law 21 = .ok (.bipush 6, 2) := by decide +kernel
theorem dL_law_23 : decode cL_law 23 = .ok (.isub, 1) := by decide +kernel
theorem dL_law_24 : decode cL_law 24 = .ok (.if_icmp .gt 858, 3) := by decide +kernel
theorem dL_law_27 : decode cL_law 27 = .ok (.aload_n 0, 1) := by decide +kernel
theorem dL_law_28 : decode cL_law 28 = .ok (.iload_n 3, 1) := by decide +kernel
theorem dL_law_29 : decode cL_law 29 = .ok (.iaload, 1) := by decide +kernel
theorem dL_law_30 : decode cL_law 30 = .ok (.bipush 31, 2) := by decide +kernel
theorem dL_law_32 : decode cL_law 32 = .ok (.iand, 1) := by decide +kernel
theorem dL_law_33 : decode cL_law 33 = .ok (.tableswitch 843 0 23 #[111, 144, 207, 260, 293, 336, 399, 422, 445, 488, 511, 554, 567, 600, 633, 646, 669, 702, 725, 748, 761, 784, 797, 820], 111) := by decide +kernel
theorem dL_law_144 : decode cL_law 144 = .ok (.aload_n 1, 1) := by decide +kernel
theorem dL_law_145 : decode cL_law 145 = .ok (.aload_n 0, 1) := by decide +kernel
theorem dL_law_146 : decode cL_law 146 = .ok (.iload_n 3, 1) := by decide +kernel
theorem dL_law_147 : decode cL_law 147 = .ok (.iconst 1, 1) := by decide +kernel
theorem dL_law_148 : decode cL_law 148 = .ok (.iadd, 1) := by decide +kernel
theorem dL_law_149 : decode cL_law 149 = .ok (.iaload, 1) := by decide +kernel
theorem dL_law_150 : decode cL_law 150 = .ok (.aload_n 0, 1) := by decide +kernel
theorem dL_law_151 : decode cL_law 151 = .ok (.iload_n 3, 1) := by decide +kernel
theorem dL_law_152 : decode cL_law 152 = .ok (.iconst 2, 1) := by decide +kernel
theorem dL_law_153 : decode cL_law 153 = .ok (.iadd, 1) := by decide +kernel
theorem dL_law_154 : decode cL_law 154 = .ok (.iaload, 1) := by decide +kernel
theorem dL_law_155 : decode cL_law 155 = .ok (.invokevirtual 13, 3) := by decide +kernel
theorem dL_law_158 : decode cL_law 158 = .ok (.aload_n 2, 1) := by decide +kernel
theorem dL_law_159 : decode cL_law 159 = .ok (.aload_n 0, 1) := by decide +kernel
theorem dL_law_160 : decode cL_law 160 = .ok (.iload_n 3, 1) := by decide +kernel
theorem dL_law_161 : decode cL_law 161 = .ok (.iconst 1, 1) := by decide +kernel
theorem dL_law_162 : decode cL_law 162 = .ok (.iadd, 1) := by decide +kernel
theorem dL_law_163 : decode cL_law 163 = .ok (.iaload, 1) := by decide +kernel
theorem dL_law_164 : decode cL_law 164 = .ok (.aload_n 0, 1) := by decide +kernel
theorem dL_law_165 : decode cL_law 165 = .ok (.iload_n 3, 1) := by decide +kernel
theorem dL_law_166 : decode cL_law 166 = .ok (.iconst 2, 1) := by decide +kernel
theorem dL_law_167 : decode cL_law 167 = .ok (.iadd, 1) := by decide +kernel
theorem dL_law_168 : decode cL_law 168 = .ok (.iaload, 1) := by decide +kernel
theorem dL_law_169 : decode cL_law 169 = .ok (.invokevirtual 17, 3) := by decide +kernel
theorem dL_law_172 : decode cL_law 172 = .ok (.if_icmp .eq 704, 3) := by decide +kernel
theorem dL_law_175 : decode cL_law 175 = .ok (.iconst 0, 1) := by decide +kernel
theorem dL_law_176 : decode cL_law 176 = .ok (.ireturn, 1) := by decide +kernel
theorem dL_law_177 : decode cL_law 177 = .ok (.aload_n 1, 1) := by decide +kernel
theorem dL_law_178 : decode cL_law 178 = .ok (.aload_n 0, 1) := by decide +kernel
theorem dL_law_179 : decode cL_law 179 = .ok (.iload_n 3, 1) := by decide +kernel
theorem dL_law_180 : decode cL_law 180 = .ok (.iconst 1, 1) := by decide +kernel
theorem dL_law_181 : decode cL_law 181 = .ok (.iadd, 1) := by decide +kernel
theorem dL_law_182 : decode cL_law 182 = .ok (.iaload, 1) := by decide +kernel
theorem dL_law_183 : decode cL_law 183 = .ok (.aload_n 0, 1) := by decide +kernel
theorem dL_law_184 : decode cL_law 184 = .ok (.iload_n 3, 1) := by decide +kernel
theorem dL_law_185 : decode cL_law 185 = .ok (.iconst 2, 1) := by decide +kernel
theorem dL_law_186 : decode cL_law 186 = .ok (.iadd, 1) := by decide +kernel
theorem dL_law_187 : decode cL_law 187 = .ok (.iaload, 1) := by decide +kernel
theorem dL_law_188 : decode cL_law 188 = .ok (.aload_n 0, 1) := by decide +kernel
theorem dL_law_189 : decode cL_law 189 = .ok (.iload_n 3, 1) := by decide +kernel
theorem dL_law_190 : decode cL_law 190 = .ok (.iconst 3, 1) := by decide +kernel
theorem dL_law_191 : decode cL_law 191 = .ok (.iadd, 1) := by decide +kernel
theorem dL_law_192 : decode cL_law 192 = .ok (.iaload, 1) := by decide +kernel
theorem dL_law_193 : decode cL_law 193 = .ok (.aload_n 0, 1) := by decide +kernel
theorem dL_law_194 : decode cL_law 194 = .ok (.iload_n 3, 1) := by decide +kernel
theorem dL_law_195 : decode cL_law 195 = .ok (.iconst 4, 1) := by decide +kernel
theorem dL_law_196 : decode cL_law 196 = .ok (.iadd, 1) := by decide +kernel
theorem dL_law_197 : decode cL_law 197 = .ok (.iaload, 1) := by decide +kernel
theorem dL_law_198 : decode cL_law 198 = .ok (.aload_n 0, 1) := by decide +kernel
theorem dL_law_199 : decode cL_law 199 = .ok (.iload_n 3, 1) := by decide +kernel
theorem dL_law_200 : decode cL_law 200 = .ok (.iconst 5, 1) := by decide +kernel
theorem dL_law_201 : decode cL_law 201 = .ok (.iadd, 1) := by decide +kernel
theorem dL_law_202 : decode cL_law 202 = .ok (.iaload, 1) := by decide +kernel
theorem dL_law_203 : decode cL_law 203 = .ok (.invokevirtual 18, 3) := by decide +kernel
theorem dL_law_206 : decode cL_law 206 = .ok (.aload_n 2, 1) := by decide +kernel
theorem dL_law_207 : decode cL_law 207 = .ok (.aload_n 0, 1) := by decide +kernel
theorem dL_law_208 : decode cL_law 208 = .ok (.iload_n 3, 1) := by decide +kernel
theorem dL_law_209 : decode cL_law 209 = .ok (.iconst 1, 1) := by decide +kernel
theorem dL_law_210 : decode cL_law 210 = .ok (.iadd, 1) := by decide +kernel
theorem dL_law_211 : decode cL_law 211 = .ok (.iaload, 1) := by decide +kernel
theorem dL_law_212 : decode cL_law 212 = .ok (.aload_n 0, 1) := by decide +kernel
theorem dL_law_213 : decode cL_law 213 = .ok (.iload_n 3, 1) := by decide +kernel
theorem dL_law_214 : decode cL_law 214 = .ok (.iconst 2, 1) := by decide +kernel
theorem dL_law_215 : decode cL_law 215 = .ok (.iadd, 1) := by decide +kernel
theorem dL_law_216 : decode cL_law 216 = .ok (.iaload, 1) := by decide +kernel
theorem dL_law_217 : decode cL_law 217 = .ok (.aload_n 0, 1) := by decide +kernel
theorem dL_law_218 : decode cL_law 218 = .ok (.iload_n 3, 1) := by decide +kernel
theorem dL_law_219 : decode cL_law 219 = .ok (.iconst 3, 1) := by decide +kernel
theorem dL_law_220 : decode cL_law 220 = .ok (.iadd, 1) := by decide +kernel
theorem dL_law_221 : decode cL_law 221 = .ok (.iaload, 1) := by decide +kernel
theorem dL_law_222 : decode cL_law 222 = .ok (.aload_n 0, 1) := by decide +kernel
theorem dL_law_223 : decode cL_law 223 = .ok (.iload_n 3, 1) := by decide +kernel
theorem dL_law_224 : decode cL_law 224 = .ok (.iconst 4, 1) := by decide +kernel
theorem dL_law_225 : decode cL_law 225 = .ok (.iadd, 1) := by decide +kernel
theorem dL_law_226 : decode cL_law 226 = .ok (.iaload, 1) := by decide +kernel
theorem dL_law_227 : decode cL_law 227 = .ok (.aload_n 0, 1) := by decide +kernel
theorem dL_law_228 : decode cL_law 228 = .ok (.iload_n 3, 1) := by decide +kernel
theorem dL_law_229 : decode cL_law 229 = .ok (.iconst 5, 1) := by decide +kernel
theorem dL_law_230 : decode cL_law 230 = .ok (.iadd, 1) := by decide +kernel
theorem dL_law_231 : decode cL_law 231 = .ok (.iaload, 1) := by decide +kernel
theorem dL_law_232 : decode cL_law 232 = .ok (.invokevirtual 22, 3) := by decide +kernel
theorem dL_law_235 : decode cL_law 235 = .ok (.if_icmp .eq 641, 3) := by decide +kernel
theorem dL_law_238 : decode cL_law 238 = .ok (.iconst 0, 1) := by decide +kernel
theorem dL_law_239 : decode cL_law 239 = .ok (.ireturn, 1) := by decide +kernel
theorem dL_law_240 : decode cL_law 240 = .ok (.aload_n 1, 1) := by decide +kernel
theorem dL_law_241 : decode cL_law 241 = .ok (.aload_n 0, 1) := by decide +kernel
theorem dL_law_242 : decode cL_law 242 = .ok (.iload_n 3, 1) := by decide +kernel
theorem dL_law_243 : decode cL_law 243 = .ok (.iconst 1, 1) := by decide +kernel
theorem dL_law_244 : decode cL_law 244 = .ok (.iadd, 1) := by decide +kernel
theorem dL_law_245 : decode cL_law 245 = .ok (.iaload, 1) := by decide +kernel
theorem dL_law_246 : decode cL_law 246 = .ok (.aload_n 0, 1) := by decide +kernel
theorem dL_law_247 : decode cL_law 247 = .ok (.iload_n 3, 1) := by decide +kernel
theorem dL_law_248 : decode cL_law 248 = .ok (.iconst 2, 1) := by decide +kernel
theorem dL_law_249 : decode cL_law 249 = .ok (.iadd, 1) := by decide +kernel
theorem dL_law_250 : decode cL_law 250 = .ok (.iaload, 1) := by decide +kernel
theorem dL_law_251 : decode cL_law 251 = .ok (.aload_n 0, 1) := by decide +kernel
theorem dL_law_252 : decode cL_law 252 = .ok (.iload_n 3, 1) := by decide +kernel
theorem dL_law_253 : decode cL_law 253 = .ok (.iconst 3, 1) := by decide +kernel
theorem dL_law_254 : decode cL_law 254 = .ok (.iadd, 1) := by decide +kernel
theorem dL_law_255 : decode cL_law 255 = .ok (.iaload, 1) := by decide +kernel
theorem dL_law_256 : decode cL_law 256 = .ok (.aload_n 0, 1) := by decide +kernel
theorem dL_law_257 : decode cL_law 257 = .ok (.iload_n 3, 1) := by decide +kernel
theorem dL_law_258 : decode cL_law 258 = .ok (.iconst 4, 1) := by decide +kernel
theorem dL_law_259 : decode cL_law 259 = .ok (.iadd, 1) := by decide +kernel
theorem dL_law_260 : decode cL_law 260 = .ok (.iaload, 1) := by decide +kernel
theorem dL_law_261 : decode cL_law 261 = .ok (.invokevirtual 23, 3) := by decide +kernel
theorem dL_law_264 : decode cL_law 264 = .ok (.aload_n 2, 1) := by decide +kernel
theorem dL_law_265 : decode cL_law 265 = .ok (.aload_n 0, 1) := by decide +kernel
theorem dL_law_266 : decode cL_law 266 = .ok (.iload_n 3, 1) := by decide +kernel
theorem dL_law_267 : decode cL_law 267 = .ok (.iconst 1, 1) := by decide +kernel
theorem dL_law_268 : decode cL_law 268 = .ok (.iadd, 1) := by decide +kernel
theorem dL_law_269 : decode cL_law 269 = .ok (.iaload, 1) := by decide +kernel
theorem dL_law_270 : decode cL_law 270 = .ok (.aload_n 0, 1) := by decide +kernel
theorem dL_law_271 : decode cL_law 271 = .ok (.iload_n 3, 1) := by decide +kernel
theorem dL_law_272 : decode cL_law 272 = .ok (.iconst 2, 1) := by decide +kernel
theorem dL_law_273 : decode cL_law 273 = .ok (.iadd, 1) := by decide +kernel
theorem dL_law_274 : decode cL_law 274 = .ok (.iaload, 1) := by decide +kernel
theorem dL_law_275 : decode cL_law 275 = .ok (.aload_n 0, 1) := by decide +kernel
theorem dL_law_276 : decode cL_law 276 = .ok (.iload_n 3, 1) := by decide +kernel
theorem dL_law_277 : decode cL_law 277 = .ok (.iconst 3, 1) := by decide +kernel
theorem dL_law_278 : decode cL_law 278 = .ok (.iadd, 1) := by decide +kernel
theorem dL_law_279 : decode cL_law 279 = .ok (.iaload, 1) := by decide +kernel
theorem dL_law_280 : decode cL_law 280 = .ok (.aload_n 0, 1) := by decide +kernel
theorem dL_law_281 : decode cL_law 281 = .ok (.iload_n 3, 1) := by decide +kernel
theorem dL_law_282 : decode cL_law 282 = .ok (.iconst 4, 1) := by decide +kernel
theorem dL_law_283 : decode cL_law 283 = .ok (.iadd, 1) := by decide +kernel
theorem dL_law_284 : decode cL_law 284 = .ok (.iaload, 1) := by decide +kernel
theorem dL_law_285 : decode cL_law 285 = .ok (.invokevirtual 27, 3) := by decide +kernel
theorem dL_law_288 : decode cL_law 288 = .ok (.if_icmp .eq 588, 3) := by decide +kernel
theorem dL_law_291 : decode cL_law 291 = .ok (.iconst 0, 1) := by decide +kernel
theorem dL_law_292 : decode cL_law 292 = .ok (.ireturn, 1) := by decide +kernel
theorem dL_law_293 : decode cL_law 293 = .ok (.aload_n 1, 1) := by decide +kernel
theorem dL_law_294 : decode cL_law 294 = .ok (.aload_n 0, 1) := by decide +kernel
theorem dL_law_295 : decode cL_law 295 = .ok (.iload_n 3, 1) := by decide +kernel
theorem dL_law_296 : decode cL_law 296 = .ok (.iconst 1, 1) := by decide +kernel
theorem dL_law_297 : decode cL_law 297 = .ok (.iadd, 1) := by decide +kernel
theorem dL_law_298 : decode cL_law 298 = .ok (.iaload, 1) := by decide +kernel
theorem dL_law_299 : decode cL_law 299 = .ok (.aload_n 0, 1) := by decide +kernel
theorem dL_law_300 : decode cL_law 300 = .ok (.iload_n 3, 1) := by decide +kernel
theorem dL_law_301 : decode cL_law 301 = .ok (.iconst 2, 1) := by decide +kernel
theorem dL_law_302 : decode cL_law 302 = .ok (.iadd, 1) := by decide +kernel
theorem dL_law_303 : decode cL_law 303 = .ok (.iaload, 1) := by decide +kernel
theorem dL_law_304 : decode cL_law 304 = .ok (.invokevirtual 28, 3) := by decide +kernel
theorem dL_law_307 : decode cL_law 307 = .ok (.aload_n 2, 1) := by decide +kernel
theorem dL_law_308 : decode cL_law 308 = .ok (.aload_n 0, 1) := by decide +kernel
theorem dL_law_309 : decode cL_law 309 = .ok (.iload_n 3, 1) := by decide +kernel
theorem dL_law_310 : decode cL_law 310 = .ok (.iconst 1, 1) := by decide +kernel
theorem dL_law_311 : decode cL_law 311 = .ok (.iadd, 1) := by decide +kernel
theorem dL_law_312 : decode cL_law 312 = .ok (.iaload, 1) := by decide +kernel
theorem dL_law_313 : decode cL_law 313 = .ok (.aload_n 0, 1) := by decide +kernel
theorem dL_law_314 : decode cL_law 314 = .ok (.iload_n 3, 1) := by decide +kernel
theorem dL_law_315 : decode cL_law 315 = .ok (.iconst 2, 1) := by decide +kernel
theorem dL_law_316 : decode cL_law 316 = .ok (.iadd, 1) := by decide +kernel
theorem dL_law_317 : decode cL_law 317 = .ok (.iaload, 1) := by decide +kernel
theorem dL_law_318 : decode cL_law 318 = .ok (.invokevirtual 31, 3) := by decide +kernel
theorem dL_law_321 : decode cL_law 321 = .ok (.if_icmp .eq 555, 3) := by decide +kernel
theorem dL_law_324 : decode cL_law 324 = .ok (.iconst 0, 1) := by decide +kernel
theorem dL_law_325 : decode cL_law 325 = .ok (.ireturn, 1) := by decide +kernel
theorem dL_law_326 : decode cL_law 326 = .ok (.aload_n 1, 1) := by decide +kernel
theorem dL_law_327 : decode cL_law 327 = .ok (.aload_n 0, 1) := by decide +kernel
theorem dL_law_328 : decode cL_law 328 = .ok (.iload_n 3, 1) := by decide +kernel
theorem dL_law_329 : decode cL_law 329 = .ok (.iconst 1, 1) := by decide +kernel
theorem dL_law_330 : decode cL_law 330 = .ok (.iadd, 1) := by decide +kernel
theorem dL_law_331 : decode cL_law 331 = .ok (.iaload, 1) := by decide +kernel
theorem dL_law_332 : decode cL_law 332 = .ok (.aload_n 0, 1) := by decide +kernel
theorem dL_law_333 : decode cL_law 333 = .ok (.iload_n 3, 1) := by decide +kernel
theorem dL_law_334 : decode cL_law 334 = .ok (.iconst 2, 1) := by decide +kernel
theorem dL_law_335 : decode cL_law 335 = .ok (.iadd, 1) := by decide +kernel
theorem dL_law_336 : decode cL_law 336 = .ok (.iaload, 1) := by decide +kernel
theorem dL_law_337 : decode cL_law 337 = .ok (.aload_n 0, 1) := by decide +kernel
theorem dL_law_338 : decode cL_law 338 = .ok (.iload_n 3, 1) := by decide +kernel
theorem dL_law_339 : decode cL_law 339 = .ok (.iconst 3, 1) := by decide +kernel
theorem dL_law_340 : decode cL_law 340 = .ok (.iadd, 1) := by decide +kernel
theorem dL_law_341 : decode cL_law 341 = .ok (.iaload, 1) := by decide +kernel
theorem dL_law_342 : decode cL_law 342 = .ok (.invokevirtual 32, 3) := by decide +kernel
theorem dL_law_345 : decode cL_law 345 = .ok (.aload_n 2, 1) := by decide +kernel
theorem dL_law_346 : decode cL_law 346 = .ok (.aload_n 0, 1) := by decide +kernel
theorem dL_law_347 : decode cL_law 347 = .ok (.iload_n 3, 1) := by decide +kernel
theorem dL_law_348 : decode cL_law 348 = .ok (.iconst 1, 1) := by decide +kernel
theorem dL_law_349 : decode cL_law 349 = .ok (.iadd, 1) := by decide +kernel
theorem dL_law_350 : decode cL_law 350 = .ok (.iaload, 1) := by decide +kernel
theorem dL_law_351 : decode cL_law 351 = .ok (.aload_n 0, 1) := by decide +kernel
theorem dL_law_352 : decode cL_law 352 = .ok (.iload_n 3, 1) := by decide +kernel
theorem dL_law_353 : decode cL_law 353 = .ok (.iconst 2, 1) := by decide +kernel
theorem dL_law_354 : decode cL_law 354 = .ok (.iadd, 1) := by decide +kernel
theorem dL_law_355 : decode cL_law 355 = .ok (.iaload, 1) := by decide +kernel
theorem dL_law_356 : decode cL_law 356 = .ok (.aload_n 0, 1) := by decide +kernel
theorem dL_law_357 : decode cL_law 357 = .ok (.iload_n 3, 1) := by decide +kernel
theorem dL_law_358 : decode cL_law 358 = .ok (.iconst 3, 1) := by decide +kernel
theorem dL_law_359 : decode cL_law 359 = .ok (.iadd, 1) := by decide +kernel
theorem dL_law_360 : decode cL_law 360 = .ok (.iaload, 1) := by decide +kernel
theorem dL_law_361 : decode cL_law 361 = .ok (.invokevirtual 36, 3) := by decide +kernel
theorem dL_law_364 : decode cL_law 364 = .ok (.if_icmp .eq 512, 3) := by decide +kernel
theorem dL_law_367 : decode cL_law 367 = .ok (.iconst 0, 1) := by decide +kernel
theorem dL_law_368 : decode cL_law 368 = .ok (.ireturn, 1) := by decide +kernel
theorem dL_law_369 : decode cL_law 369 = .ok (.aload_n 1, 1) := by decide +kernel
theorem dL_law_370 : decode cL_law 370 = .ok (.aload_n 0, 1) := by decide +kernel
theorem dL_law_371 : decode cL_law 371 = .ok (.iload_n 3, 1) := by decide +kernel
theorem dL_law_372 : decode cL_law 372 = .ok (.iconst 1, 1) := by decide +kernel
theorem dL_law_373 : decode cL_law 373 = .ok (.iadd, 1) := by decide +kernel
theorem dL_law_374 : decode cL_law 374 = .ok (.iaload, 1) := by decide +kernel
theorem dL_law_375 : decode cL_law 375 = .ok (.aload_n 0, 1) := by decide +kernel
theorem dL_law_376 : decode cL_law 376 = .ok (.iload_n 3, 1) := by decide +kernel
theorem dL_law_377 : decode cL_law 377 = .ok (.iconst 2, 1) := by decide +kernel
theorem dL_law_378 : decode cL_law 378 = .ok (.iadd, 1) := by decide +kernel
theorem dL_law_379 : decode cL_law 379 = .ok (.iaload, 1) := by decide +kernel
theorem dL_law_380 : decode cL_law 380 = .ok (.aload_n 0, 1) := by decide +kernel
theorem dL_law_381 : decode cL_law 381 = .ok (.iload_n 3, 1) := by decide +kernel
theorem dL_law_382 : decode cL_law 382 = .ok (.iconst 3, 1) := by decide +kernel
theorem dL_law_383 : decode cL_law 383 = .ok (.iadd, 1) := by decide +kernel
theorem dL_law_384 : decode cL_law 384 = .ok (.iaload, 1) := by decide +kernel
theorem dL_law_385 : decode cL_law 385 = .ok (.aload_n 0, 1) := by decide +kernel
theorem dL_law_386 : decode cL_law 386 = .ok (.iload_n 3, 1) := by decide +kernel
theorem dL_law_387 : decode cL_law 387 = .ok (.iconst 4, 1) := by decide +kernel
theorem dL_law_388 : decode cL_law 388 = .ok (.iadd, 1) := by decide +kernel
theorem dL_law_389 : decode cL_law 389 = .ok (.iaload, 1) := by decide +kernel
theorem dL_law_390 : decode cL_law 390 = .ok (.aload_n 0, 1) := by decide +kernel
theorem dL_law_391 : decode cL_law 391 = .ok (.iload_n 3, 1) := by decide +kernel
theorem dL_law_392 : decode cL_law 392 = .ok (.iconst 5, 1) := by decide +kernel
theorem dL_law_393 : decode cL_law 393 = .ok (.iadd, 1) := by decide +kernel
theorem dL_law_394 : decode cL_law 394 = .ok (.iaload, 1) := by decide +kernel
theorem dL_law_395 : decode cL_law 395 = .ok (.invokevirtual 37, 3) := by decide +kernel
theorem dL_law_398 : decode cL_law 398 = .ok (.aload_n 2, 1) := by decide +kernel
theorem dL_law_399 : decode cL_law 399 = .ok (.aload_n 0, 1) := by decide +kernel
theorem dL_law_400 : decode cL_law 400 = .ok (.iload_n 3, 1) := by decide +kernel
theorem dL_law_401 : decode cL_law 401 = .ok (.iconst 1, 1) := by decide +kernel
theorem dL_law_402 : decode cL_law 402 = .ok (.iadd, 1) := by decide +kernel
theorem dL_law_403 : decode cL_law 403 = .ok (.iaload, 1) := by decide +kernel
theorem dL_law_404 : decode cL_law 404 = .ok (.aload_n 0, 1) := by decide +kernel
theorem dL_law_405 : decode cL_law 405 = .ok (.iload_n 3, 1) := by decide +kernel
theorem dL_law_406 : decode cL_law 406 = .ok (.iconst 2, 1) := by decide +kernel
theorem dL_law_407 : decode cL_law 407 = .ok (.iadd, 1) := by decide +kernel
theorem dL_law_408 : decode cL_law 408 = .ok (.iaload, 1) := by decide +kernel
theorem dL_law_409 : decode cL_law 409 = .ok (.aload_n 0, 1) := by decide +kernel
theorem dL_law_410 : decode cL_law 410 = .ok (.iload_n 3, 1) := by decide +kernel
theorem dL_law_411 : decode cL_law 411 = .ok (.iconst 3, 1) := by decide +kernel
theorem dL_law_412 : decode cL_law 412 = .ok (.iadd, 1) := by decide +kernel
theorem dL_law_413 : decode cL_law 413 = .ok (.iaload, 1) := by decide +kernel
theorem dL_law_414 : decode cL_law 414 = .ok (.aload_n 0, 1) := by decide +kernel
theorem dL_law_415 : decode cL_law 415 = .ok (.iload_n 3, 1) := by decide +kernel
theorem dL_law_416 : decode cL_law 416 = .ok (.iconst 4, 1) := by decide +kernel
theorem dL_law_417 : decode cL_law 417 = .ok (.iadd, 1) := by decide +kernel
theorem dL_law_418 : decode cL_law 418 = .ok (.iaload, 1) := by decide +kernel
theorem dL_law_419 : decode cL_law 419 = .ok (.aload_n 0, 1) := by decide +kernel
theorem dL_law_420 : decode cL_law 420 = .ok (.iload_n 3, 1) := by decide +kernel
theorem dL_law_421 : decode cL_law 421 = .ok (.iconst 5, 1) := by decide +kernel
theorem dL_law_422 : decode cL_law 422 = .ok (.iadd, 1) := by decide +kernel
theorem dL_law_423 : decode cL_law 423 = .ok (.iaload, 1) := by decide +kernel
theorem dL_law_424 : decode cL_law 424 = .ok (.invokevirtual 40, 3) := by decide +kernel
theorem dL_law_427 : decode cL_law 427 = .ok (.if_icmp .eq 449, 3) := by decide +kernel
theorem dL_law_430 : decode cL_law 430 = .ok (.iconst 0, 1) := by decide +kernel
theorem dL_law_431 : decode cL_law 431 = .ok (.ireturn, 1) := by decide +kernel
theorem dL_law_432 : decode cL_law 432 = .ok (.aload_n 1, 1) := by decide +kernel
theorem dL_law_433 : decode cL_law 433 = .ok (.aload_n 0, 1) := by decide +kernel
theorem dL_law_434 : decode cL_law 434 = .ok (.iload_n 3, 1) := by decide +kernel
theorem dL_law_435 : decode cL_law 435 = .ok (.iconst 1, 1) := by decide +kernel
theorem dL_law_436 : decode cL_law 436 = .ok (.iadd, 1) := by decide +kernel
theorem dL_law_437 : decode cL_law 437 = .ok (.iaload, 1) := by decide +kernel
theorem dL_law_438 : decode cL_law 438 = .ok (.invokevirtual 41, 3) := by decide +kernel
theorem dL_law_441 : decode cL_law 441 = .ok (.aload_n 2, 1) := by decide +kernel
theorem dL_law_442 : decode cL_law 442 = .ok (.aload_n 0, 1) := by decide +kernel
theorem dL_law_443 : decode cL_law 443 = .ok (.iload_n 3, 1) := by decide +kernel
theorem dL_law_444 : decode cL_law 444 = .ok (.iconst 1, 1) := by decide +kernel
theorem dL_law_445 : decode cL_law 445 = .ok (.iadd, 1) := by decide +kernel
theorem dL_law_446 : decode cL_law 446 = .ok (.iaload, 1) := by decide +kernel
theorem dL_law_447 : decode cL_law 447 = .ok (.invokevirtual 45, 3) := by decide +kernel
theorem dL_law_450 : decode cL_law 450 = .ok (.if_icmp .eq 426, 3) := by decide +kernel
theorem dL_law_453 : decode cL_law 453 = .ok (.iconst 0, 1) := by decide +kernel
theorem dL_law_454 : decode cL_law 454 = .ok (.ireturn, 1) := by decide +kernel
theorem dL_law_455 : decode cL_law 455 = .ok (.aload_n 1, 1) := by decide +kernel
theorem dL_law_456 : decode cL_law 456 = .ok (.aload_n 0, 1) := by decide +kernel
theorem dL_law_457 : decode cL_law 457 = .ok (.iload_n 3, 1) := by decide +kernel
theorem dL_law_458 : decode cL_law 458 = .ok (.iconst 1, 1) := by decide +kernel
theorem dL_law_459 : decode cL_law 459 = .ok (.iadd, 1) := by decide +kernel
theorem dL_law_460 : decode cL_law 460 = .ok (.iaload, 1) := by decide +kernel
theorem dL_law_461 : decode cL_law 461 = .ok (.invokevirtual 46, 3) := by decide +kernel
theorem dL_law_464 : decode cL_law 464 = .ok (.aload_n 2, 1) := by decide +kernel
theorem dL_law_465 : decode cL_law 465 = .ok (.aload_n 0, 1) := by decide +kernel
theorem dL_law_466 : decode cL_law 466 = .ok (.iload_n 3, 1) := by decide +kernel
theorem dL_law_467 : decode cL_law 467 = .ok (.iconst 1, 1) := by decide +kernel
theorem dL_law_468 : decode cL_law 468 = .ok (.iadd, 1) := by decide +kernel
theorem dL_law_469 : decode cL_law 469 = .ok (.iaload, 1) := by decide +kernel
theorem dL_law_470 : decode cL_law 470 = .ok (.invokevirtual 49, 3) := by decide +kernel
theorem dL_law_473 : decode cL_law 473 = .ok (.if_icmp .eq 403, 3) := by decide +kernel
theorem dL_law_476 : decode cL_law 476 = .ok (.iconst 0, 1) := by decide +kernel
theorem dL_law_477 : decode cL_law 477 = .ok (.ireturn, 1) := by decide +kernel
theorem dL_law_478 : decode cL_law 478 = .ok (.aload_n 1, 1) := by decide +kernel
theorem dL_law_479 : decode cL_law 479 = .ok (.aload_n 0, 1) := by decide +kernel
theorem dL_law_480 : decode cL_law 480 = .ok (.iload_n 3, 1) := by decide +kernel
theorem dL_law_481 : decode cL_law 481 = .ok (.iconst 1, 1) := by decide +kernel
theorem dL_law_482 : decode cL_law 482 = .ok (.iadd, 1) := by decide +kernel
theorem dL_law_483 : decode cL_law 483 = .ok (.iaload, 1) := by decide +kernel
theorem dL_law_484 : decode cL_law 484 = .ok (.aload_n 0, 1) := by decide +kernel
theorem dL_law_485 : decode cL_law 485 = .ok (.iload_n 3, 1) := by decide +kernel
theorem dL_law_486 : decode cL_law 486 = .ok (.iconst 2, 1) := by decide +kernel
theorem dL_law_487 : decode cL_law 487 = .ok (.iadd, 1) := by decide +kernel
theorem dL_law_488 : decode cL_law 488 = .ok (.iaload, 1) := by decide +kernel
theorem dL_law_489 : decode cL_law 489 = .ok (.aload_n 0, 1) := by decide +kernel
theorem dL_law_490 : decode cL_law 490 = .ok (.iload_n 3, 1) := by decide +kernel
theorem dL_law_491 : decode cL_law 491 = .ok (.iconst 3, 1) := by decide +kernel
theorem dL_law_492 : decode cL_law 492 = .ok (.iadd, 1) := by decide +kernel
theorem dL_law_493 : decode cL_law 493 = .ok (.iaload, 1) := by decide +kernel
theorem dL_law_494 : decode cL_law 494 = .ok (.invokevirtual 50, 3) := by decide +kernel
theorem dL_law_497 : decode cL_law 497 = .ok (.aload_n 2, 1) := by decide +kernel
theorem dL_law_498 : decode cL_law 498 = .ok (.aload_n 0, 1) := by decide +kernel
theorem dL_law_499 : decode cL_law 499 = .ok (.iload_n 3, 1) := by decide +kernel
theorem dL_law_500 : decode cL_law 500 = .ok (.iconst 1, 1) := by decide +kernel
theorem dL_law_501 : decode cL_law 501 = .ok (.iadd, 1) := by decide +kernel
theorem dL_law_502 : decode cL_law 502 = .ok (.iaload, 1) := by decide +kernel
theorem dL_law_503 : decode cL_law 503 = .ok (.aload_n 0, 1) := by decide +kernel
theorem dL_law_504 : decode cL_law 504 = .ok (.iload_n 3, 1) := by decide +kernel
theorem dL_law_505 : decode cL_law 505 = .ok (.iconst 2, 1) := by decide +kernel
theorem dL_law_506 : decode cL_law 506 = .ok (.iadd, 1) := by decide +kernel
theorem dL_law_507 : decode cL_law 507 = .ok (.iaload, 1) := by decide +kernel
theorem dL_law_508 : decode cL_law 508 = .ok (.aload_n 0, 1) := by decide +kernel
theorem dL_law_509 : decode cL_law 509 = .ok (.iload_n 3, 1) := by decide +kernel
theorem dL_law_510 : decode cL_law 510 = .ok (.iconst 3, 1) := by decide +kernel
theorem dL_law_511 : decode cL_law 511 = .ok (.iadd, 1) := by decide +kernel
theorem dL_law_512 : decode cL_law 512 = .ok (.iaload, 1) := by decide +kernel
theorem dL_law_513 : decode cL_law 513 = .ok (.invokevirtual 53, 3) := by decide +kernel
theorem dL_law_516 : decode cL_law 516 = .ok (.if_icmp .eq 360, 3) := by decide +kernel
theorem dL_law_519 : decode cL_law 519 = .ok (.iconst 0, 1) := by decide +kernel
theorem dL_law_520 : decode cL_law 520 = .ok (.ireturn, 1) := by decide +kernel
theorem dL_law_521 : decode cL_law 521 = .ok (.aload_n 1, 1) := by decide +kernel
theorem dL_law_522 : decode cL_law 522 = .ok (.aload_n 0, 1) := by decide +kernel
theorem dL_law_523 : decode cL_law 523 = .ok (.iload_n 3, 1) := by decide +kernel
theorem dL_law_524 : decode cL_law 524 = .ok (.iconst 1, 1) := by decide +kernel
theorem dL_law_525 : decode cL_law 525 = .ok (.iadd, 1) := by decide +kernel
theorem dL_law_526 : decode cL_law 526 = .ok (.iaload, 1) := by decide +kernel
theorem dL_law_527 : decode cL_law 527 = .ok (.invokevirtual 54, 3) := by decide +kernel
theorem dL_law_530 : decode cL_law 530 = .ok (.aload_n 2, 1) := by decide +kernel
theorem dL_law_531 : decode cL_law 531 = .ok (.aload_n 0, 1) := by decide +kernel
theorem dL_law_532 : decode cL_law 532 = .ok (.iload_n 3, 1) := by decide +kernel
theorem dL_law_533 : decode cL_law 533 = .ok (.iconst 1, 1) := by decide +kernel
theorem dL_law_534 : decode cL_law 534 = .ok (.iadd, 1) := by decide +kernel
theorem dL_law_535 : decode cL_law 535 = .ok (.iaload, 1) := by decide +kernel
theorem dL_law_536 : decode cL_law 536 = .ok (.invokevirtual 57, 3) := by decide +kernel
theorem dL_law_539 : decode cL_law 539 = .ok (.if_icmp .eq 337, 3) := by decide +kernel
theorem dL_law_542 : decode cL_law 542 = .ok (.iconst 0, 1) := by decide +kernel
theorem dL_law_543 : decode cL_law 543 = .ok (.ireturn, 1) := by decide +kernel
theorem dL_law_544 : decode cL_law 544 = .ok (.aload_n 1, 1) := by decide +kernel
theorem dL_law_545 : decode cL_law 545 = .ok (.aload_n 0, 1) := by decide +kernel
theorem dL_law_546 : decode cL_law 546 = .ok (.iload_n 3, 1) := by decide +kernel
theorem dL_law_547 : decode cL_law 547 = .ok (.iconst 1, 1) := by decide +kernel
theorem dL_law_548 : decode cL_law 548 = .ok (.iadd, 1) := by decide +kernel
theorem dL_law_549 : decode cL_law 549 = .ok (.iaload, 1) := by decide +kernel
theorem dL_law_550 : decode cL_law 550 = .ok (.aload_n 0, 1) := by decide +kernel
theorem dL_law_551 : decode cL_law 551 = .ok (.iload_n 3, 1) := by decide +kernel
theorem dL_law_552 : decode cL_law 552 = .ok (.iconst 2, 1) := by decide +kernel
theorem dL_law_553 : decode cL_law 553 = .ok (.iadd, 1) := by decide +kernel
theorem dL_law_554 : decode cL_law 554 = .ok (.iaload, 1) := by decide +kernel
theorem dL_law_555 : decode cL_law 555 = .ok (.aload_n 0, 1) := by decide +kernel
theorem dL_law_556 : decode cL_law 556 = .ok (.iload_n 3, 1) := by decide +kernel
theorem dL_law_557 : decode cL_law 557 = .ok (.iconst 3, 1) := by decide +kernel
theorem dL_law_558 : decode cL_law 558 = .ok (.iadd, 1) := by decide +kernel
theorem dL_law_559 : decode cL_law 559 = .ok (.iaload, 1) := by decide +kernel
theorem dL_law_560 : decode cL_law 560 = .ok (.invokevirtual 58, 3) := by decide +kernel
theorem dL_law_563 : decode cL_law 563 = .ok (.aload_n 2, 1) := by decide +kernel
theorem dL_law_564 : decode cL_law 564 = .ok (.aload_n 0, 1) := by decide +kernel
theorem dL_law_565 : decode cL_law 565 = .ok (.iload_n 3, 1) := by decide +kernel
theorem dL_law_566 : decode cL_law 566 = .ok (.iconst 1, 1) := by decide +kernel
theorem dL_law_567 : decode cL_law 567 = .ok (.iadd, 1) := by decide +kernel
theorem dL_law_568 : decode cL_law 568 = .ok (.iaload, 1) := by decide +kernel
theorem dL_law_569 : decode cL_law 569 = .ok (.aload_n 0, 1) := by decide +kernel
theorem dL_law_570 : decode cL_law 570 = .ok (.iload_n 3, 1) := by decide +kernel
theorem dL_law_571 : decode cL_law 571 = .ok (.iconst 2, 1) := by decide +kernel
theorem dL_law_572 : decode cL_law 572 = .ok (.iadd, 1) := by decide +kernel
theorem dL_law_573 : decode cL_law 573 = .ok (.iaload, 1) := by decide +kernel
theorem dL_law_574 : decode cL_law 574 = .ok (.aload_n 0, 1) := by decide +kernel
theorem dL_law_575 : decode cL_law 575 = .ok (.iload_n 3, 1) := by decide +kernel
theorem dL_law_576 : decode cL_law 576 = .ok (.iconst 3, 1) := by decide +kernel
theorem dL_law_577 : decode cL_law 577 = .ok (.iadd, 1) := by decide +kernel
theorem dL_law_578 : decode cL_law 578 = .ok (.iaload, 1) := by decide +kernel
theorem dL_law_579 : decode cL_law 579 = .ok (.invokevirtual 61, 3) := by decide +kernel
theorem dL_law_582 : decode cL_law 582 = .ok (.if_icmp .eq 294, 3) := by decide +kernel
theorem dL_law_585 : decode cL_law 585 = .ok (.iconst 0, 1) := by decide +kernel
theorem dL_law_586 : decode cL_law 586 = .ok (.ireturn, 1) := by decide +kernel
theorem dL_law_587 : decode cL_law 587 = .ok (.aload_n 1, 1) := by decide +kernel
theorem dL_law_588 : decode cL_law 588 = .ok (.invokevirtual 62, 3) := by decide +kernel
theorem dL_law_591 : decode cL_law 591 = .ok (.aload_n 2, 1) := by decide +kernel
theorem dL_law_592 : decode cL_law 592 = .ok (.invokevirtual 66, 3) := by decide +kernel
theorem dL_law_595 : decode cL_law 595 = .ok (.if_icmp .eq 281, 3) := by decide +kernel
theorem dL_law_598 : decode cL_law 598 = .ok (.iconst 0, 1) := by decide +kernel
theorem dL_law_599 : decode cL_law 599 = .ok (.ireturn, 1) := by decide +kernel
theorem dL_law_600 : decode cL_law 600 = .ok (.aload_n 1, 1) := by decide +kernel
theorem dL_law_601 : decode cL_law 601 = .ok (.aload_n 0, 1) := by decide +kernel
theorem dL_law_602 : decode cL_law 602 = .ok (.iload_n 3, 1) := by decide +kernel
theorem dL_law_603 : decode cL_law 603 = .ok (.iconst 1, 1) := by decide +kernel
theorem dL_law_604 : decode cL_law 604 = .ok (.iadd, 1) := by decide +kernel
theorem dL_law_605 : decode cL_law 605 = .ok (.iaload, 1) := by decide +kernel
theorem dL_law_606 : decode cL_law 606 = .ok (.aload_n 0, 1) := by decide +kernel
theorem dL_law_607 : decode cL_law 607 = .ok (.iload_n 3, 1) := by decide +kernel
theorem dL_law_608 : decode cL_law 608 = .ok (.iconst 2, 1) := by decide +kernel
theorem dL_law_609 : decode cL_law 609 = .ok (.iadd, 1) := by decide +kernel
theorem dL_law_610 : decode cL_law 610 = .ok (.iaload, 1) := by decide +kernel
theorem dL_law_611 : decode cL_law 611 = .ok (.invokevirtual 67, 3) := by decide +kernel
theorem dL_law_614 : decode cL_law 614 = .ok (.aload_n 2, 1) := by decide +kernel
theorem dL_law_615 : decode cL_law 615 = .ok (.aload_n 0, 1) := by decide +kernel
theorem dL_law_616 : decode cL_law 616 = .ok (.iload_n 3, 1) := by decide +kernel
theorem dL_law_617 : decode cL_law 617 = .ok (.iconst 1, 1) := by decide +kernel
theorem dL_law_618 : decode cL_law 618 = .ok (.iadd, 1) := by decide +kernel
theorem dL_law_619 : decode cL_law 619 = .ok (.iaload, 1) := by decide +kernel
theorem dL_law_620 : decode cL_law 620 = .ok (.aload_n 0, 1) := by decide +kernel
theorem dL_law_621 : decode cL_law 621 = .ok (.iload_n 3, 1) := by decide +kernel
theorem dL_law_622 : decode cL_law 622 = .ok (.iconst 2, 1) := by decide +kernel
theorem dL_law_623 : decode cL_law 623 = .ok (.iadd, 1) := by decide +kernel
theorem dL_law_624 : decode cL_law 624 = .ok (.iaload, 1) := by decide +kernel
theorem dL_law_625 : decode cL_law 625 = .ok (.invokevirtual 70, 3) := by decide +kernel
theorem dL_law_628 : decode cL_law 628 = .ok (.if_icmp .eq 248, 3) := by decide +kernel
theorem dL_law_631 : decode cL_law 631 = .ok (.iconst 0, 1) := by decide +kernel
theorem dL_law_632 : decode cL_law 632 = .ok (.ireturn, 1) := by decide +kernel
theorem dL_law_633 : decode cL_law 633 = .ok (.aload_n 1, 1) := by decide +kernel
theorem dL_law_634 : decode cL_law 634 = .ok (.aload_n 0, 1) := by decide +kernel
theorem dL_law_635 : decode cL_law 635 = .ok (.iload_n 3, 1) := by decide +kernel
theorem dL_law_636 : decode cL_law 636 = .ok (.iconst 1, 1) := by decide +kernel
theorem dL_law_637 : decode cL_law 637 = .ok (.iadd, 1) := by decide +kernel
theorem dL_law_638 : decode cL_law 638 = .ok (.iaload, 1) := by decide +kernel
theorem dL_law_639 : decode cL_law 639 = .ok (.aload_n 0, 1) := by decide +kernel
theorem dL_law_640 : decode cL_law 640 = .ok (.iload_n 3, 1) := by decide +kernel
theorem dL_law_641 : decode cL_law 641 = .ok (.iconst 2, 1) := by decide +kernel
theorem dL_law_642 : decode cL_law 642 = .ok (.iadd, 1) := by decide +kernel
theorem dL_law_643 : decode cL_law 643 = .ok (.iaload, 1) := by decide +kernel
theorem dL_law_644 : decode cL_law 644 = .ok (.invokevirtual 71, 3) := by decide +kernel
theorem dL_law_647 : decode cL_law 647 = .ok (.aload_n 2, 1) := by decide +kernel
theorem dL_law_648 : decode cL_law 648 = .ok (.aload_n 0, 1) := by decide +kernel
theorem dL_law_649 : decode cL_law 649 = .ok (.iload_n 3, 1) := by decide +kernel
theorem dL_law_650 : decode cL_law 650 = .ok (.iconst 1, 1) := by decide +kernel
theorem dL_law_651 : decode cL_law 651 = .ok (.iadd, 1) := by decide +kernel
theorem dL_law_652 : decode cL_law 652 = .ok (.iaload, 1) := by decide +kernel
theorem dL_law_653 : decode cL_law 653 = .ok (.aload_n 0, 1) := by decide +kernel
theorem dL_law_654 : decode cL_law 654 = .ok (.iload_n 3, 1) := by decide +kernel
theorem dL_law_655 : decode cL_law 655 = .ok (.iconst 2, 1) := by decide +kernel
theorem dL_law_656 : decode cL_law 656 = .ok (.iadd, 1) := by decide +kernel
theorem dL_law_657 : decode cL_law 657 = .ok (.iaload, 1) := by decide +kernel
theorem dL_law_658 : decode cL_law 658 = .ok (.invokevirtual 74, 3) := by decide +kernel
theorem dL_law_661 : decode cL_law 661 = .ok (.if_icmp .eq 215, 3) := by decide +kernel
theorem dL_law_664 : decode cL_law 664 = .ok (.iconst 0, 1) := by decide +kernel
theorem dL_law_665 : decode cL_law 665 = .ok (.ireturn, 1) := by decide +kernel
theorem dL_law_666 : decode cL_law 666 = .ok (.aload_n 1, 1) := by decide +kernel
theorem dL_law_667 : decode cL_law 667 = .ok (.invokevirtual 75, 3) := by decide +kernel
theorem dL_law_670 : decode cL_law 670 = .ok (.aload_n 2, 1) := by decide +kernel
theorem dL_law_671 : decode cL_law 671 = .ok (.invokevirtual 78, 3) := by decide +kernel
theorem dL_law_674 : decode cL_law 674 = .ok (.if_icmp .eq 202, 3) := by decide +kernel
theorem dL_law_677 : decode cL_law 677 = .ok (.iconst 0, 1) := by decide +kernel
theorem dL_law_678 : decode cL_law 678 = .ok (.ireturn, 1) := by decide +kernel
theorem dL_law_679 : decode cL_law 679 = .ok (.aload_n 1, 1) := by decide +kernel
theorem dL_law_680 : decode cL_law 680 = .ok (.aload_n 0, 1) := by decide +kernel
theorem dL_law_681 : decode cL_law 681 = .ok (.iload_n 3, 1) := by decide +kernel
theorem dL_law_682 : decode cL_law 682 = .ok (.iconst 1, 1) := by decide +kernel
theorem dL_law_683 : decode cL_law 683 = .ok (.iadd, 1) := by decide +kernel
theorem dL_law_684 : decode cL_law 684 = .ok (.iaload, 1) := by decide +kernel
theorem dL_law_685 : decode cL_law 685 = .ok (.invokevirtual 79, 3) := by decide +kernel
theorem dL_law_688 : decode cL_law 688 = .ok (.aload_n 2, 1) := by decide +kernel
theorem dL_law_689 : decode cL_law 689 = .ok (.aload_n 0, 1) := by decide +kernel
theorem dL_law_690 : decode cL_law 690 = .ok (.iload_n 3, 1) := by decide +kernel
theorem dL_law_691 : decode cL_law 691 = .ok (.iconst 1, 1) := by decide +kernel
theorem dL_law_692 : decode cL_law 692 = .ok (.iadd, 1) := by decide +kernel
theorem dL_law_693 : decode cL_law 693 = .ok (.iaload, 1) := by decide +kernel
theorem dL_law_694 : decode cL_law 694 = .ok (.invokevirtual 82, 3) := by decide +kernel
theorem dL_law_697 : decode cL_law 697 = .ok (.if_icmp .eq 179, 3) := by decide +kernel
theorem dL_law_700 : decode cL_law 700 = .ok (.iconst 0, 1) := by decide +kernel
theorem dL_law_701 : decode cL_law 701 = .ok (.ireturn, 1) := by decide +kernel
theorem dL_law_702 : decode cL_law 702 = .ok (.aload_n 1, 1) := by decide +kernel
theorem dL_law_703 : decode cL_law 703 = .ok (.aload_n 0, 1) := by decide +kernel
theorem dL_law_704 : decode cL_law 704 = .ok (.iload_n 3, 1) := by decide +kernel
theorem dL_law_705 : decode cL_law 705 = .ok (.iconst 1, 1) := by decide +kernel
theorem dL_law_706 : decode cL_law 706 = .ok (.iadd, 1) := by decide +kernel
theorem dL_law_707 : decode cL_law 707 = .ok (.iaload, 1) := by decide +kernel
theorem dL_law_708 : decode cL_law 708 = .ok (.aload_n 0, 1) := by decide +kernel
theorem dL_law_709 : decode cL_law 709 = .ok (.iload_n 3, 1) := by decide +kernel
theorem dL_law_710 : decode cL_law 710 = .ok (.iconst 2, 1) := by decide +kernel
theorem dL_law_711 : decode cL_law 711 = .ok (.iadd, 1) := by decide +kernel
theorem dL_law_712 : decode cL_law 712 = .ok (.iaload, 1) := by decide +kernel
theorem dL_law_713 : decode cL_law 713 = .ok (.invokevirtual 83, 3) := by decide +kernel
theorem dL_law_716 : decode cL_law 716 = .ok (.aload_n 2, 1) := by decide +kernel
theorem dL_law_717 : decode cL_law 717 = .ok (.aload_n 0, 1) := by decide +kernel
theorem dL_law_718 : decode cL_law 718 = .ok (.iload_n 3, 1) := by decide +kernel
theorem dL_law_719 : decode cL_law 719 = .ok (.iconst 1, 1) := by decide +kernel
theorem dL_law_720 : decode cL_law 720 = .ok (.iadd, 1) := by decide +kernel
theorem dL_law_721 : decode cL_law 721 = .ok (.iaload, 1) := by decide +kernel
theorem dL_law_722 : decode cL_law 722 = .ok (.aload_n 0, 1) := by decide +kernel
theorem dL_law_723 : decode cL_law 723 = .ok (.iload_n 3, 1) := by decide +kernel
theorem dL_law_724 : decode cL_law 724 = .ok (.iconst 2, 1) := by decide +kernel
theorem dL_law_725 : decode cL_law 725 = .ok (.iadd, 1) := by decide +kernel
theorem dL_law_726 : decode cL_law 726 = .ok (.iaload, 1) := by decide +kernel
theorem dL_law_727 : decode cL_law 727 = .ok (.invokevirtual 86, 3) := by decide +kernel
theorem dL_law_730 : decode cL_law 730 = .ok (.if_icmp .eq 146, 3) := by decide +kernel
theorem dL_law_733 : decode cL_law 733 = .ok (.iconst 0, 1) := by decide +kernel
theorem dL_law_734 : decode cL_law 734 = .ok (.ireturn, 1) := by decide +kernel
theorem dL_law_735 : decode cL_law 735 = .ok (.aload_n 1, 1) := by decide +kernel
theorem dL_law_736 : decode cL_law 736 = .ok (.aload_n 0, 1) := by decide +kernel
theorem dL_law_737 : decode cL_law 737 = .ok (.iload_n 3, 1) := by decide +kernel
theorem dL_law_738 : decode cL_law 738 = .ok (.iconst 1, 1) := by decide +kernel
theorem dL_law_739 : decode cL_law 739 = .ok (.iadd, 1) := by decide +kernel
theorem dL_law_740 : decode cL_law 740 = .ok (.iaload, 1) := by decide +kernel
theorem dL_law_741 : decode cL_law 741 = .ok (.invokevirtual 87, 3) := by decide +kernel
theorem dL_law_744 : decode cL_law 744 = .ok (.aload_n 2, 1) := by decide +kernel
theorem dL_law_745 : decode cL_law 745 = .ok (.aload_n 0, 1) := by decide +kernel
theorem dL_law_746 : decode cL_law 746 = .ok (.iload_n 3, 1) := by decide +kernel
theorem dL_law_747 : decode cL_law 747 = .ok (.iconst 1, 1) := by decide +kernel
theorem dL_law_748 : decode cL_law 748 = .ok (.iadd, 1) := by decide +kernel
theorem dL_law_749 : decode cL_law 749 = .ok (.iaload, 1) := by decide +kernel
theorem dL_law_750 : decode cL_law 750 = .ok (.invokevirtual 90, 3) := by decide +kernel
theorem dL_law_753 : decode cL_law 753 = .ok (.if_icmp .eq 123, 3) := by decide +kernel
theorem dL_law_756 : decode cL_law 756 = .ok (.iconst 0, 1) := by decide +kernel
theorem dL_law_757 : decode cL_law 757 = .ok (.ireturn, 1) := by decide +kernel
theorem dL_law_758 : decode cL_law 758 = .ok (.aload_n 1, 1) := by decide +kernel
theorem dL_law_759 : decode cL_law 759 = .ok (.aload_n 0, 1) := by decide +kernel
theorem dL_law_760 : decode cL_law 760 = .ok (.iload_n 3, 1) := by decide +kernel
theorem dL_law_761 : decode cL_law 761 = .ok (.iconst 1, 1) := by decide +kernel
theorem dL_law_762 : decode cL_law 762 = .ok (.iadd, 1) := by decide +kernel
theorem dL_law_763 : decode cL_law 763 = .ok (.iaload, 1) := by decide +kernel
