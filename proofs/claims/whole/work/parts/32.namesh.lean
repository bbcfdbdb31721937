theorem dX9_readsCell_58 : decode cX9_readsCell 58 = .ok (.invokevirtual 135, 3) := by decide +kernel
theorem dX9_readsCell_61 : decode cX9_readsCell 61 = .ok (.ireturn, 1) := by decide +kernel
theorem dX9_readsCell_62 : decode cX9_readsCell 62 = .ok (.aload_n 0, 1) := by decide +kernel
theorem dX9_readsCell_63 : decode cX9_readsCell 63 = .ok (.bipush 35, 2) := by decide +kernel
theorem dX9_readsCell_65 : decode cX9_readsCell 65 = .ok (.bipush 35, 2) := by decide +kernel
theorem dX9_readsCell_67 : decode cX9_readsCell 67 = .ok (.invokevirtual 132, 3) := by decide +kernel
theorem dX9_readsCell_70 : decode cX9_readsCell 70 = .ok (.ifCond .eq 29, 3) := by decide +kernel
theorem dX9_readsCell_73 : decode cX9_readsCell 73 = .ok (.aload_n 0, 1) := by decide +kernel
theorem dX9_readsCell_74 : decode cX9_readsCell 74 = .ok (.invokevirtual 138, 3) := by decide +kernel
theorem dX9_readsCell_77 : decode cX9_readsCell 77 = .ok (.ifCond .eq 16, 3) := by decide +kernel
theorem dX9_readsCell_80 : decode cX9_readsCell 80 = .ok (.aload_n 0, 1) := by decide +kernel
theorem dX9_readsCell_81 : decode cX9_readsCell 81 = .ok (.iconst 4, 1) := by decide +kernel
theorem dX9_readsCell_82 : decode cX9_readsCell 82 = .ok (.aload_n 0, 1) := by decide +kernel
theorem dX9_readsCell_83 : decode cX9_readsCell 83 = .ok (.getfield 123, 3) := by decide +kernel
theorem dX9_readsCell_86 : decode cX9_readsCell 86 = .ok (.iconst 0, 1) := by decide +kernel
theorem dX9_readsCell_87 : decode cX9_readsCell 87 = .ok (.invokevirtual 135, 3) := by decide +kernel
theorem dX9_readsCell_90 : decode cX9_readsCell 90 = .ok (.goto 8, 3) := by decide +kernel
theorem dX9_readsCell_93 : decode cX9_readsCell 93 = .ok (.aload_n 0, 1) := by decide +kernel
theorem dX9_readsCell_94 : decode cX9_readsCell 94 = .ok (.iconst 1, 1) := by decide +kernel
theorem dX9_readsCell_95 : decode cX9_readsCell 95 = .ok (.invokevirtual 142, 3) := by decide +kernel
theorem dX9_readsCell_98 : decode cX9_readsCell 98 = .ok (.ireturn, 1) := by decide +kernel
theorem dX9_readsCell_99 : decode cX9_readsCell 99 = .ok (.aload_n 0, 1) := by decide +kernel
theorem dX9_readsCell_100 : decode cX9_readsCell 100 = .ok (.bipush 60, 2) := by decide +kernel
theorem dX9_readsCell_102 : decode cX9_readsCell 102 = .ok (.bipush 60, 2) := by decide +kernel
theorem dX9_readsCell_104 : decode cX9_readsCell 104 = .ok (.invokevirtual 132, 3) := by decide +kernel
theorem dX9_readsCell_107 : decode cX9_readsCell 107 = .ok (.ifCond .eq 11, 3) := by decide +kernel
theorem dX9_readsCell_110 : decode cX9_readsCell 110 = .ok (.aload_n 0, 1) := by decide +kernel
theorem dX9_readsCell_111 : decode cX9_readsCell 111 = .ok (.iconst 5, 1) := by decide +kernel
theorem dX9_readsCell_112 : decode cX9_readsCell 112 = .ok (.bipush 9, 2) := by decide +kernel
theorem dX9_readsCell_114 : decode cX9_readsCell 114 = .ok (.invokevirtual 145, 3) := by decide +kernel
theorem dX9_readsCell_117 : decode cX9_readsCell 117 = .ok (.ireturn, 1) := by decide +kernel
theorem dX9_readsCell_118 : decode cX9_readsCell 118 = .ok (.aload_n 0, 1) := by decide +kernel
theorem dX9_readsCell_119 : decode cX9_readsCell 119 = .ok (.bipush 62, 2) := by decide +kernel
theorem dX9_readsCell_121 : decode cX9_readsCell 121 = .ok (.bipush 62, 2) := by decide +kernel
theorem dX9_readsCell_123 : decode cX9_readsCell 123 = .ok (.invokevirtual 132, 3) := by decide +kernel
theorem dX9_readsCell_126 : decode cX9_readsCell 126 = .ok (.ifCond .eq 12, 3) := by decide +kernel
theorem dX9_readsCell_129 : decode cX9_readsCell 129 = .ok (.aload_n 0, 1) := by decide +kernel
theorem dX9_readsCell_130 : decode cX9_readsCell 130 = .ok (.bipush 6, 2) := by decide +kernel
theorem dX9_readsCell_132 : decode cX9_readsCell 132 = .ok (.bipush 10, 2) := by decide +kernel
theorem dX9_readsCell_134 : decode cX9_readsCell 134 = .ok (.invokevirtual 145, 3) := by decide +kernel
theorem dX9_readsCell_137 : decode cX9_readsCell 137 = .ok (.ireturn, 1) := by decide +kernel
theorem dX9_readsCell_138 : decode cX9_readsCell 138 = .ok (.aload_n 0, 1) := by decide +kernel
theorem dX9_readsCell_139 : decode cX9_readsCell 139 = .ok (.bipush 119, 2) := by decide +kernel
theorem dX9_readsCell_141 : decode cX9_readsCell 141 = .ok (.bipush 122, 2) := by decide +kernel
theorem dX9_readsCell_143 : decode cX9_readsCell 143 = .ok (.invokevirtual 132, 3) := by decide +kernel
theorem dX9_readsCell_146 : decode cX9_readsCell 146 = .ok (.ifCond .eq 20, 3) := by decide +kernel
theorem dX9_readsCell_149 : decode cX9_readsCell 149 = .ok (.aload_n 0, 1) := by decide +kernel
theorem dX9_readsCell_150 : decode cX9_readsCell 150 = .ok (.bipush 8, 2) := by decide +kernel
theorem dX9_readsCell_152 : decode cX9_readsCell 152 = .ok (.aload_n 0, 1) := by decide +kernel
theorem dX9_readsCell_153 : decode cX9_readsCell 153 = .ok (.getfield 16, 3) := by decide +kernel
theorem dX9_readsCell_156 : decode cX9_readsCell 156 = .ok (.iload_n 1, 1) := by decide +kernel
theorem dX9_readsCell_157 : decode cX9_readsCell 157 = .ok (.iaload, 1) := by decide +kernel
theorem dX9_readsCell_158 : decode cX9_readsCell 158 = .ok (.bipush 119, 2) := by decide +kernel
theorem dX9_readsCell_160 : decode cX9_readsCell 160 = .ok (.isub, 1) := by decide +kernel
theorem dX9_readsCell_161 : decode cX9_readsCell 161 = .ok (.iconst 0, 1) := by decide +kernel
theorem dX9_readsCell_162 : decode cX9_readsCell 162 = .ok (.invokevirtual 135, 3) := by decide +kernel
theorem dX9_readsCell_165 : decode cX9_readsCell 165 = .ok (.ireturn, 1) := by decide +kernel
theorem dX9_readsCell_166 : decode cX9_readsCell 166 = .ok (.aload_n 0, 1) := by decide +kernel
theorem dX9_readsCell_167 : decode cX9_readsCell 167 = .ok (.invokevirtual 138, 3) := by decide +kernel
theorem dX9_readsCell_170 : decode cX9_readsCell 170 = .ok (.ifCond .eq 11, 3) := by decide +kernel
theorem dX9_readsCell_173 : decode cX9_readsCell 173 = .ok (.aload_n 0, 1) := by decide +kernel
theorem dX9_readsCell_174 : decode cX9_readsCell 174 = .ok (.iload_n 1, 1) := by decide +kernel
theorem dX9_readsCell_175 : decode cX9_readsCell 175 = .ok (.invokevirtual 148, 3) := by decide +kernel
theorem dX9_readsCell_178 : decode cX9_readsCell 178 = .ok (.goto 8, 3) := by decide +kernel
theorem dX9_readsCell_181 : decode cX9_readsCell 181 = .ok (.aload_n 0, 1) := by decide +kernel
theorem dX9_readsCell_182 : decode cX9_readsCell 182 = .ok (.iconst 1, 1) := by decide +kernel
theorem dX9_readsCell_183 : decode cX9_readsCell 183 = .ok (.invokevirtual 142, 3) := by decide +kernel
theorem dX9_readsCell_186 : decode cX9_readsCell 186 = .ok (.ireturn, 1) := by decide +kernel
set_option maxRecDepth 20000 in
theorem ggX9_isRight_X9_readsCell : GoodIn wsX9_isRight wsX9_readsCell := goodIn_r _ [8, 1, 9, 10, 11, 12, 13, 7, 14, 15, 16, 17, 18, 3, 19, 20, 21, 22, 23, 24, 25, 26, 2, 27, 28, 29, 30, 31, 32, 33, 34, 35, 36, 37, 38, 39, 40, 41, 42, 43, 44, 45, 46, 47, 48, 49, 50, 51, 52, 53, 54, 55, 56] (by decide +kernel) (by decide +kernel)
set_option maxRecDepth 20000 in
theorem gX9_isRight_X9_readsCell : GoodIn wsX9_isRight (wsV RX9 151 RX9 yX9_readsCell wsX9_readsCell) := goodIn_app (goodIn_of _ (by decide +kernel)) ggX9_isRight_X9_readsCell
set_option maxRecDepth 20000 in
theorem ggX9_isRight_X9_isAt : GoodIn wsX9_isRight wsX9_isAt := goodIn_r _ [18, 1, 3, 10, 19, 20, 7, 21, 44, 45, 46, 47, 48, 49, 50, 51, 52, 53, 54, 55, 56] (by decide +kernel) (by decide +kernel)
set_option maxRecDepth 20000 in
theorem gX9_isRight_X9_isAt : GoodIn wsX9_isRight (wsV RX9 120 RX9 yX9_isAt wsX9_isAt) := goodIn_app (goodIn_of _ (by decide +kernel)) ggX9_isRight_X9_isAt
set_option maxRecDepth 20000 in
theorem ggX9_isRight_X9_fails : GoodIn wsX9_isRight wsX9_fails := goodIn_r _ [34, 35, 44, 45, 46, 47, 48, 49, 50, 51, 52, 53, 54, 55, 56] (by decide +kernel) (by decide +kernel)
set_option maxRecDepth 20000 in
theorem gX9_isRight_X9_fails : GoodIn wsX9_isRight (wsV RX9 142 RX9 yX9_fails wsX9_fails) := goodIn_app (goodIn_of _ (by decide +kernel)) ggX9_isRight_X9_fails
theorem dX9_isRight_0 : decode cX9_isRight 0 = .ok (.aload_n 0, 1) := by decide +kernel
theorem dX9_isRight_1 : decode cX9_isRight 1 = .ok (.iconst 0, 1) := by decide +kernel
theorem dX9_isRight_2 : decode cX9_isRight 2 = .ok (.putfield 117, 3) := by decide +kernel
theorem dX9_isRight_5 : decode cX9_isRight 5 = .ok (.aload_n 0, 1) := by decide +kernel
theorem dX9_isRight_6 : decode cX9_isRight 6 = .ok (.iconst 0, 1) := by decide +kernel
theorem dX9_isRight_7 : decode cX9_isRight 7 = .ok (.putfield 126, 3) := by decide +kernel
theorem dX9_isRight_10 : decode cX9_isRight 10 = .ok (.aload_n 0, 1) := by decide +kernel
theorem dX9_isRight_11 : decode cX9_isRight 11 = .ok (.invokevirtual 151, 3) := by decide +kernel
theorem dX9_isRight_14 : decode cX9_isRight 14 = .ok (.istore_n 1, 1) := by decide +kernel
theorem dX9_isRight_15 : decode cX9_isRight 15 = .ok (.iload_n 1, 1) := by decide +kernel
theorem dX9_isRight_16 : decode cX9_isRight 16 = .ok (.ifCond .eq 63, 3) := by decide +kernel
theorem dX9_isRight_19 : decode cX9_isRight 19 = .ok (.aload_n 0, 1) := by decide +kernel
theorem dX9_isRight_20 : decode cX9_isRight 20 = .ok (.getfield 117, 3) := by decide +kernel
theorem dX9_isRight_23 : decode cX9_isRight 23 = .ok (.aload_n 0, 1) := by decide +kernel
theorem dX9_isRight_24 : decode cX9_isRight 24 = .ok (.getfield 114, 3) := by decide +kernel
theorem dX9_isRight_27 : decode cX9_isRight 27 = .ok (.if_icmp .ge 52, 3) := by decide +kernel
theorem dX9_isRight_30 : decode cX9_isRight 30 = .ok (.aload_n 0, 1) := by decide +kernel
theorem dX9_isRight_31 : decode cX9_isRight 31 = .ok (.bipush 44, 2) := by decide +kernel
theorem dX9_isRight_33 : decode cX9_isRight 33 = .ok (.bipush 44, 2) := by decide +kernel
theorem dX9_isRight_35 : decode cX9_isRight 35 = .ok (.invokevirtual 120, 3) := by decide +kernel
theorem dX9_isRight_38 : decode cX9_isRight 38 = .ok (.ifCond .ne 9, 3) := by decide +kernel
theorem dX9_isRight_41 : decode cX9_isRight 41 = .ok (.aload_n 0, 1) := by decide +kernel
theorem dX9_isRight_42 : decode cX9_isRight 42 = .ok (.iconst 1, 1) := by decide +kernel
theorem dX9_isRight_43 : decode cX9_isRight 43 = .ok (.invokevirtual 142, 3) := by decide +kernel
theorem dX9_isRight_46 : decode cX9_isRight 46 = .ok (.ireturn, 1) := by decide +kernel
theorem dX9_isRight_47 : decode cX9_isRight 47 = .ok (.aload_n 0, 1) := by decide +kernel
theorem dX9_isRight_48 : decode cX9_isRight 48 = .ok (.getfield 126, 3) := by decide +kernel
theorem dX9_isRight_51 : decode cX9_isRight 51 = .ok (.iconst 4, 1) := by decide +kernel
theorem dX9_isRight_52 : decode cX9_isRight 52 = .ok (.if_icmp .ne 9, 3) := by decide +kernel
theorem dX9_isRight_55 : decode cX9_isRight 55 = .ok (.aload_n 0, 1) := by decide +kernel
theorem dX9_isRight_56 : decode cX9_isRight 56 = .ok (.iconst 3, 1) := by decide +kernel
theorem dX9_isRight_57 : decode cX9_isRight 57 = .ok (.invokevirtual 142, 3) := by decide +kernel
theorem dX9_isRight_60 : decode cX9_isRight 60 = .ok (.ireturn, 1) := by decide +kernel
theorem dX9_isRight_61 : decode cX9_isRight 61 = .ok (.aload_n 0, 1) := by decide +kernel
theorem dX9_isRight_62 : decode cX9_isRight 62 = .ok (.dup, 1) := by decide +kernel
theorem dX9_isRight_63 : decode cX9_isRight 63 = .ok (.getfield 117, 3) := by decide +kernel
theorem dX9_isRight_66 : decode cX9_isRight 66 = .ok (.iconst 1, 1) := by decide +kernel
theorem dX9_isRight_67 : decode cX9_isRight 67 = .ok (.iadd, 1) := by decide +kernel
theorem dX9_isRight_68 : decode cX9_isRight 68 = .ok (.putfield 117, 3) := by decide +kernel
theorem dX9_isRight_71 : decode cX9_isRight 71 = .ok (.aload_n 0, 1) := by decide +kernel
theorem dX9_isRight_72 : decode cX9_isRight 72 = .ok (.invokevirtual 151, 3) := by decide +kernel
theorem dX9_isRight_75 : decode cX9_isRight 75 = .ok (.istore_n 1, 1) := by decide +kernel
theorem dX9_isRight_76 : decode cX9_isRight 76 = .ok (.goto (-61), 3) := by decide +kernel
theorem dX9_isRight_79 : decode cX9_isRight 79 = .ok (.iload_n 1, 1) := by decide +kernel
theorem dX9_isRight_80 : decode cX9_isRight 80 = .ok (.ireturn, 1) := by decide +kernel
set_option maxRecDepth 20000 in
theorem ggX9_fault_X9_in : GoodIn wsX9_fault wsX9_in := goodIn_r _ [6] (by decide +kernel) (by decide +kernel)
set_option maxRecDepth 20000 in
theorem gX9_fault_X9_in : GoodIn wsX9_fault (va_wsS RX9 32 yX9_in wsX9_in) := goodIn_app (goodIn_of _ (by decide +kernel)) ggX9_fault_X9_in
set_option maxRecDepth 20000 in
theorem ggX9_fault_X9_isRight : GoodIn wsX9_fault wsX9_isRight := goodIn_r _ [10, 1, 11, 12, 13, 14, 15, 5, 16, 17, 18, 19, 20, 21, 22, 23, 24, 25, 26, 3, 4, 6, 27, 28, 29, 30, 31, 32, 33, 34, 35, 36, 37, 38, 39, 2, 40, 41, 42, 43, 44, 45, 46, 47, 48, 49, 50, 51, 52, 53, 54, 55, 56, 57, 58, 59, 60] (by decide +kernel) (by decide +kernel)
set_option maxRecDepth 20000 in
theorem gX9_fault_X9_isRight : GoodIn wsX9_fault (wsV RX9 154 RX9 yX9_isRight wsX9_isRight) := goodIn_app (goodIn_of _ (by decide +kernel)) ggX9_fault_X9_isRight
theorem dX9_fault_0 : decode cX9_fault 0 = .ok (.iload_n 1, 1) := by decide +kernel
theorem dX9_fault_1 : decode cX9_fault 1 = .ok (.iconst 0, 1) := by decide +kernel
theorem dX9_fault_2 : decode cX9_fault 2 = .ok (.iconst 1, 1) := by decide +kernel
theorem dX9_fault_3 : decode cX9_fault 3 = .ok (.invokestatic 32, 3) := by decide +kernel
theorem dX9_fault_6 : decode cX9_fault 6 = .ok (.ifCond .ne 6, 3) := by decide +kernel
theorem dX9_fault_9 : decode cX9_fault 9 = .ok (.bipush (-11), 2) := by decide +kernel
theorem dX9_fault_11 : decode cX9_fault 11 = .ok (.ireturn, 1) := by decide +kernel
theorem dX9_fault_12 : decode cX9_fault 12 = .ok (.aload_n 0, 1) := by decide +kernel
theorem dX9_fault_13 : decode cX9_fault 13 = .ok (.invokevirtual 154, 3) := by decide +kernel
theorem dX9_fault_16 : decode cX9_fault 16 = .ok (.ifCond .eq 8, 3) := by decide +kernel
theorem dX9_fault_19 : decode cX9_fault 19 = .ok (.bipush (-14), 2) := by decide +kernel
theorem dX9_fault_21 : decode cX9_fault 21 = .ok (.goto 18, 3) := by decide +kernel
theorem dX9_fault_24 : decode cX9_fault 24 = .ok (.iload_n 1, 1) := by decide +kernel
theorem dX9_fault_25 : decode cX9_fault 25 = .ok (.ifCond .ne 10, 3) := by decide +kernel
theorem dX9_fault_28 : decode cX9_fault 28 = .ok (.aload_n 0, 1) := by decide +kernel
theorem dX9_fault_29 : decode cX9_fault 29 = .ok (.getfield 117, 3) := by decide +kernel
theorem dX9_fault_32 : decode cX9_fault 32 = .ok (.goto 7, 3) := by decide +kernel
theorem dX9_fault_35 : decode cX9_fault 35 = .ok (.aload_n 0, 1) := by decide +kernel
theorem dX9_fault_36 : decode cX9_fault 36 = .ok (.getfield 129, 3) := by decide +kernel
theorem dX9_fault_39 : decode cX9_fault 39 = .ok (.ireturn, 1) := by decide +kernel
set_option maxRecDepth 20000 in
theorem ggX9_read_X9_isDrawer : GoodIn wsX9_read wsX9_isDrawer := goodIn_r _ [8, 9, 10, 7, 11] (by decide +kernel) (by decide +kernel)
set_option maxRecDepth 20000 in
theorem gX9_read_X9_isDrawer : GoodIn wsX9_read (va_wsS RX9 36 yX9_isDrawer wsX9_isDrawer) := goodIn_app (goodIn_of _ (by decide +kernel)) ggX9_read_X9_isDrawer
set_option maxRecDepth 20000 in
theorem ggX9_read_X9_isRight : GoodIn wsX9_read wsX9_isRight := goodIn_r _ [15, 16, 1, 17, 18, 19, 20, 7, 21, 22, 23, 24, 25, 26, 27, 28, 29, 30, 31, 9, 10, 11, 32, 33, 34, 35, 3, 36, 37, 38, 39, 40, 41, 42, 43, 44, 45, 46, 47, 48, 49, 50, 51, 52, 111, 112, 113, 114, 115, 116, 117, 118, 119, 120, 121, 122, 123] (by decide +kernel) (by decide +kernel)
set_option maxRecDepth 20000 in
theorem gX9_read_X9_isRight : GoodIn wsX9_read (wsV RX9 154 RX9 yX9_isRight wsX9_isRight) := goodIn_app (goodIn_of _ (by decide +kernel)) ggX9_read_X9_isRight
set_option maxRecDepth 20000 in
theorem ggX9_read_X9_changes : GoodIn wsX9_read wsX9_changes := goodIn_r _ [56, 57, 58, 2, 111, 112, 113, 114, 115, 116, 117, 118, 119, 120, 121, 122, 123] (by decide +kernel) (by decide +kernel)
set_option maxRecDepth 20000 in
theorem gX9_read_X9_changes : GoodIn wsX9_read (wsV RX9 40 RX9 yX9_changes wsX9_changes) := goodIn_app (goodIn_of _ (by decide +kernel)) ggX9_read_X9_changes
set_option maxRecDepth 20000 in
theorem ggX9_read_X9_setsCell : GoodIn wsX9_read wsX9_setsCell := goodIn_r _ [62, 2, 111, 112, 113, 114, 115, 116, 117, 118, 119, 120, 121, 122, 123] (by decide +kernel) (by decide +kernel)
set_option maxRecDepth 20000 in
theorem gX9_read_X9_setsCell : GoodIn wsX9_read (wsV RX9 43 RX9 yX9_setsCell wsX9_setsCell) := goodIn_app (goodIn_of _ (by decide +kernel)) ggX9_read_X9_setsCell
set_option maxRecDepth 20000 in
theorem ggX9_read_X9_finds : GoodIn wsX9_read wsX9_finds := goodIn_r _ [66, 4, 2, 67, 68, 69, 7, 70, 71, 72, 73, 74, 75, 76, 77, 78, 79, 80, 81, 82, 83, 84, 85, 86, 87, 88, 89, 90, 91, 92, 93, 94, 95, 96, 9, 10, 11, 97, 98, 99, 100, 101, 102, 103, 104, 105, 106, 107, 108, 109, 110, 111, 112, 113, 114, 115, 116, 117, 118, 119, 120, 121, 122, 123] (by decide +kernel) (by decide +kernel)
set_option maxRecDepth 20000 in
theorem gX9_read_X9_finds : GoodIn wsX9_read (wsV RX9 68 RX9 yX9_finds wsX9_finds) := goodIn_app (goodIn_of _ (by decide +kernel)) ggX9_read_X9_finds
theorem dX9_read_0 : decode cX9_read 0 = .ok (.iload_n 1, 1) := by decide +kernel
theorem dX9_read_1 : decode cX9_read 1 = .ok (.invokestatic 36, 3) := by decide +kernel
theorem dX9_read_4 : decode cX9_read 4 = .ok (.ifCond .ne 6, 3) := by decide +kernel
theorem dX9_read_7 : decode cX9_read 7 = .ok (.bipush (-11), 2) := by decide +kernel
theorem dX9_read_9 : decode cX9_read 9 = .ok (.ireturn, 1) := by decide +kernel
theorem dX9_read_10 : decode cX9_read 10 = .ok (.aload_n 0, 1) := by decide +kernel
theorem dX9_read_11 : decode cX9_read 11 = .ok (.invokevirtual 154, 3) := by decide +kernel
theorem dX9_read_14 : decode cX9_read 14 = .ok (.ifCond .eq 18, 3) := by decide +kernel
theorem dX9_read_17 : decode cX9_read 17 = .ok (.aload_n 0, 1) := by decide +kernel
theorem dX9_read_18 : decode cX9_read 18 = .ok (.getfield 126, 3) := by decide +kernel
theorem dX9_read_21 : decode cX9_read 21 = .ok (.aload_n 0, 1) := by decide +kernel
theorem dX9_read_22 : decode cX9_read 22 = .ok (.getfield 7, 3) := by decide +kernel
theorem dX9_read_25 : decode cX9_read 25 = .ok (.iconst 0, 1) := by decide +kernel
theorem dX9_read_26 : decode cX9_read 26 = .ok (.iload_n 1, 1) := by decide +kernel
theorem dX9_read_27 : decode cX9_read 27 = .ok (.iadd, 1) := by decide +kernel
theorem dX9_read_28 : decode cX9_read 28 = .ok (.iaload, 1) := by decide +kernel
theorem dX9_read_29 : decode cX9_read 29 = .ok (.if_icmp .le 6, 3) := by decide +kernel
theorem dX9_read_32 : decode cX9_read 32 = .ok (.bipush (-12), 2) := by decide +kernel
theorem dX9_read_34 : decode cX9_read 34 = .ok (.ireturn, 1) := by decide +kernel
theorem dX9_read_35 : decode cX9_read 35 = .ok (.aload_n 0, 1) := by decide +kernel
theorem dX9_read_36 : decode cX9_read 36 = .ok (.invokevirtual 40, 3) := by decide +kernel
theorem dX9_read_39 : decode cX9_read 39 = .ok (.iconst 0, 1) := by decide +kernel
theorem dX9_read_40 : decode cX9_read 40 = .ok (.istore_n 2, 1) := by decide +kernel
theorem dX9_read_41 : decode cX9_read 41 = .ok (.iload_n 2, 1) := by decide +kernel
theorem dX9_read_42 : decode cX9_read 42 = .ok (.iconst 4, 1) := by decide +kernel
theorem dX9_read_43 : decode cX9_read 43 = .ok (.if_icmp .ge 81, 3) := by decide +kernel
theorem dX9_read_46 : decode cX9_read 46 = .ok (.iload_n 2, 1) := by decide +kernel
theorem dX9_read_47 : decode cX9_read 47 = .ok (.aload_n 0, 1) := by decide +kernel
theorem dX9_read_48 : decode cX9_read 48 = .ok (.getfield 126, 3) := by decide +kernel
theorem dX9_read_51 : decode cX9_read 51 = .ok (.if_icmp .ge 7, 3) := by decide +kernel
theorem dX9_read_54 : decode cX9_read 54 = .ok (.iconst 1, 1) := by decide +kernel
theorem dX9_read_55 : decode cX9_read 55 = .ok (.goto 4, 3) := by decide +kernel
theorem dX9_read_58 : decode cX9_read 58 = .ok (.iconst 0, 1) := by decide +kernel
theorem dX9_read_59 : decode cX9_read 59 = .ok (.istore_n 3, 1) := by decide +kernel
theorem dX9_read_60 : decode cX9_read 60 = .ok (.aload_n 0, 1) := by decide +kernel
theorem dX9_read_61 : decode cX9_read 61 = .ok (.iload_n 1, 1) := by decide +kernel
theorem dX9_read_62 : decode cX9_read 62 = .ok (.iload_n 2, 1) := by decide +kernel
theorem dX9_read_63 : decode cX9_read 63 = .ok (.iload_n 3, 1) := by decide +kernel
theorem dX9_read_64 : decode cX9_read 64 = .ok (.ifCond .eq 14, 3) := by decide +kernel
theorem dX9_read_67 : decode cX9_read 67 = .ok (.aload_n 0, 1) := by decide +kernel
theorem dX9_read_68 : decode cX9_read 68 = .ok (.getfield 25, 3) := by decide +kernel
theorem dX9_read_71 : decode cX9_read 71 = .ok (.iconst 3, 1) := by decide +kernel
theorem dX9_read_72 : decode cX9_read 72 = .ok (.iload_n 2, 1) := by decide +kernel
theorem dX9_read_73 : decode cX9_read 73 = .ok (.imul, 1) := by decide +kernel
theorem dX9_read_74 : decode cX9_read 74 = .ok (.iaload, 1) := by decide +kernel
theorem dX9_read_75 : decode cX9_read 75 = .ok (.goto 4, 3) := by decide +kernel
theorem dX9_read_78 : decode cX9_read 78 = .ok (.iconst 0, 1) := by decide +kernel
theorem dX9_read_79 : decode cX9_read 79 = .ok (.iload_n 3, 1) := by decide +kernel
theorem dX9_read_80 : decode cX9_read 80 = .ok (.ifCond .eq 16, 3) := by decide +kernel
theorem dX9_read_83 : decode cX9_read 83 = .ok (.aload_n 0, 1) := by decide +kernel
theorem dX9_read_84 : decode cX9_read 84 = .ok (.getfield 25, 3) := by decide +kernel
theorem dX9_read_87 : decode cX9_read 87 = .ok (.iconst 3, 1) := by decide +kernel
theorem dX9_read_88 : decode cX9_read 88 = .ok (.iload_n 2, 1) := by decide +kernel
theorem dX9_read_89 : decode cX9_read 89 = .ok (.imul, 1) := by decide +kernel
theorem dX9_read_90 : decode cX9_read 90 = .ok (.iconst 1, 1) := by decide +kernel
theorem dX9_read_91 : decode cX9_read 91 = .ok (.iadd, 1) := by decide +kernel
theorem dX9_read_92 : decode cX9_read 92 = .ok (.iaload, 1) := by decide +kernel
theorem dX9_read_93 : decode cX9_read 93 = .ok (.goto 4, 3) := by decide +kernel
theorem dX9_read_96 : decode cX9_read 96 = .ok (.iconst 0, 1) := by decide +kernel
theorem dX9_read_97 : decode cX9_read 97 = .ok (.iload_n 3, 1) := by decide +kernel
theorem dX9_read_98 : decode cX9_read 98 = .ok (.ifCond .eq 16, 3) := by decide +kernel
theorem dX9_read_101 : decode cX9_read 101 = .ok (.aload_n 0, 1) := by decide +kernel
theorem dX9_read_102 : decode cX9_read 102 = .ok (.getfield 25, 3) := by decide +kernel
theorem dX9_read_105 : decode cX9_read 105 = .ok (.iconst 3, 1) := by decide +kernel
theorem dX9_read_106 : decode cX9_read 106 = .ok (.iload_n 2, 1) := by decide +kernel
theorem dX9_read_107 : decode cX9_read 107 = .ok (.imul, 1) := by decide +kernel
theorem dX9_read_108 : decode cX9_read 108 = .ok (.iconst 2, 1) := by decide +kernel
theorem dX9_read_109 : decode cX9_read 109 = .ok (.iadd, 1) := by decide +kernel
theorem dX9_read_110 : decode cX9_read 110 = .ok (.iaload, 1) := by decide +kernel
theorem dX9_read_111 : decode cX9_read 111 = .ok (.goto 4, 3) := by decide +kernel
theorem dX9_read_114 : decode cX9_read 114 = .ok (.iconst 0, 1) := by decide +kernel
theorem dX9_read_115 : decode cX9_read 115 = .ok (.invokevirtual 43, 3) := by decide +kernel
theorem dX9_read_118 : decode cX9_read 118 = .ok (.iinc 2 1, 3) := by decide +kernel
theorem dX9_read_121 : decode cX9_read 121 = .ok (.goto (-80), 3) := by decide +kernel
theorem dX9_read_124 : decode cX9_read 124 = .ok (.aload_n 0, 1) := by decide +kernel
theorem dX9_read_125 : decode cX9_read 125 = .ok (.invokevirtual 68, 3) := by decide +kernel
theorem dX9_read_128 : decode cX9_read 128 = .ok (.aload_n 0, 1) := by decide +kernel
theorem dX9_read_129 : decode cX9_read 129 = .ok (.getfield 71, 3) := by decide +kernel
theorem dX9_read_132 : decode cX9_read 132 = .ok (.ireturn, 1) := by decide +kernel
