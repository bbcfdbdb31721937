theorem dX9_areAlike_0 : decode cX9_areAlike 0 = .ok (.iconst 1, 1) := by decide +kernel
theorem dX9_areAlike_1 : decode cX9_areAlike 1 = .ok (.istore_n 3, 1) := by decide +kernel
theorem dX9_areAlike_2 : decode cX9_areAlike 2 = .ok (.iconst 0, 1) := by decide +kernel
theorem dX9_areAlike_3 : decode cX9_areAlike 3 = .ok (.istore 4, 2) := by decide +kernel
theorem dX9_areAlike_5 : decode cX9_areAlike 5 = .ok (.iload 4, 2) := by decide +kernel
theorem dX9_areAlike_7 : decode cX9_areAlike 7 = .ok (.bipush 8, 2) := by decide +kernel
theorem dX9_areAlike_9 : decode cX9_areAlike 9 = .ok (.if_icmp .ge 96, 3) := by decide +kernel
theorem dX9_areAlike_12 : decode cX9_areAlike 12 = .ok (.iload_n 3, 1) := by decide +kernel
theorem dX9_areAlike_13 : decode cX9_areAlike 13 = .ok (.ifCond .eq 92, 3) := by decide +kernel
theorem dX9_areAlike_16 : decode cX9_areAlike 16 = .ok (.aload_n 0, 1) := by decide +kernel
theorem dX9_areAlike_17 : decode cX9_areAlike 17 = .ok (.getfield 7, 3) := by decide +kernel
theorem dX9_areAlike_20 : decode cX9_areAlike 20 = .ok (.sipush 129, 3) := by decide +kernel
theorem dX9_areAlike_23 : decode cX9_areAlike 23 = .ok (.iaload, 1) := by decide +kernel
theorem dX9_areAlike_24 : decode cX9_areAlike 24 = .ok (.iload 4, 2) := by decide +kernel
theorem dX9_areAlike_26 : decode cX9_areAlike 26 = .ok (.ishr, 1) := by decide +kernel
theorem dX9_areAlike_27 : decode cX9_areAlike 27 = .ok (.iconst 1, 1) := by decide +kernel
theorem dX9_areAlike_28 : decode cX9_areAlike 28 = .ok (.iand, 1) := by decide +kernel
theorem dX9_areAlike_29 : decode cX9_areAlike 29 = .ok (.iconst 1, 1) := by decide +kernel
theorem dX9_areAlike_30 : decode cX9_areAlike 30 = .ok (.if_icmp .ne 16, 3) := by decide +kernel
theorem dX9_areAlike_33 : decode cX9_areAlike 33 = .ok (.aload_n 0, 1) := by decide +kernel
theorem dX9_areAlike_34 : decode cX9_areAlike 34 = .ok (.iload 4, 2) := by decide +kernel
theorem dX9_areAlike_36 : decode cX9_areAlike 36 = .ok (.invokevirtual 82, 3) := by decide +kernel
theorem dX9_areAlike_39 : decode cX9_areAlike 39 = .ok (.ifCond .eq 7, 3) := by decide +kernel
theorem dX9_areAlike_42 : decode cX9_areAlike 42 = .ok (.iconst 1, 1) := by decide +kernel
theorem dX9_areAlike_43 : decode cX9_areAlike 43 = .ok (.goto 4, 3) := by decide +kernel
theorem dX9_areAlike_46 : decode cX9_areAlike 46 = .ok (.iconst 0, 1) := by decide +kernel
theorem dX9_areAlike_47 : decode cX9_areAlike 47 = .ok (.istore 5, 2) := by decide +kernel
theorem dX9_areAlike_49 : decode cX9_areAlike 49 = .ok (.iload 5, 2) := by decide +kernel
theorem dX9_areAlike_51 : decode cX9_areAlike 51 = .ok (.ifCond .eq 42, 3) := by decide +kernel
theorem dX9_areAlike_54 : decode cX9_areAlike 54 = .ok (.aload_n 0, 1) := by decide +kernel
theorem dX9_areAlike_55 : decode cX9_areAlike 55 = .ok (.aload_n 0, 1) := by decide +kernel
theorem dX9_areAlike_56 : decode cX9_areAlike 56 = .ok (.getfield 19, 3) := by decide +kernel
theorem dX9_areAlike_59 : decode cX9_areAlike 59 = .ok (.iload_n 1, 1) := by decide +kernel
theorem dX9_areAlike_60 : decode cX9_areAlike 60 = .ok (.iaload, 1) := by decide +kernel
theorem dX9_areAlike_61 : decode cX9_areAlike 61 = .ok (.aload_n 0, 1) := by decide +kernel
theorem dX9_areAlike_62 : decode cX9_areAlike 62 = .ok (.getfield 22, 3) := by decide +kernel
theorem dX9_areAlike_65 : decode cX9_areAlike 65 = .ok (.iload_n 1, 1) := by decide +kernel
theorem dX9_areAlike_66 : decode cX9_areAlike 66 = .ok (.iaload, 1) := by decide +kernel
theorem dX9_areAlike_67 : decode cX9_areAlike 67 = .ok (.iload 4, 2) := by decide +kernel
theorem dX9_areAlike_69 : decode cX9_areAlike 69 = .ok (.invokevirtual 85, 3) := by decide +kernel
theorem dX9_areAlike_72 : decode cX9_areAlike 72 = .ok (.aload_n 0, 1) := by decide +kernel
theorem dX9_areAlike_73 : decode cX9_areAlike 73 = .ok (.aload_n 0, 1) := by decide +kernel
theorem dX9_areAlike_74 : decode cX9_areAlike 74 = .ok (.getfield 19, 3) := by decide +kernel
theorem dX9_areAlike_77 : decode cX9_areAlike 77 = .ok (.iload_n 2, 1) := by decide +kernel
theorem dX9_areAlike_78 : decode cX9_areAlike 78 = .ok (.iaload, 1) := by decide +kernel
theorem dX9_areAlike_79 : decode cX9_areAlike 79 = .ok (.aload_n 0, 1) := by decide +kernel
theorem dX9_areAlike_80 : decode cX9_areAlike 80 = .ok (.getfield 22, 3) := by decide +kernel
theorem dX9_areAlike_83 : decode cX9_areAlike 83 = .ok (.iload_n 2, 1) := by decide +kernel
theorem dX9_areAlike_84 : decode cX9_areAlike 84 = .ok (.iaload, 1) := by decide +kernel
theorem dX9_areAlike_85 : decode cX9_areAlike 85 = .ok (.iload 4, 2) := by decide +kernel
theorem dX9_areAlike_87 : decode cX9_areAlike 87 = .ok (.invokevirtual 85, 3) := by decide +kernel
theorem dX9_areAlike_90 : decode cX9_areAlike 90 = .ok (.if_icmp .ne 7, 3) := by decide +kernel
theorem dX9_areAlike_93 : decode cX9_areAlike 93 = .ok (.iconst 1, 1) := by decide +kernel
theorem dX9_areAlike_94 : decode cX9_areAlike 94 = .ok (.goto 4, 3) := by decide +kernel
theorem dX9_areAlike_97 : decode cX9_areAlike 97 = .ok (.iconst 0, 1) := by decide +kernel
theorem dX9_areAlike_98 : decode cX9_areAlike 98 = .ok (.istore_n 3, 1) := by decide +kernel
theorem dX9_areAlike_99 : decode cX9_areAlike 99 = .ok (.iinc 4 1, 3) := by decide +kernel
theorem dX9_areAlike_102 : decode cX9_areAlike 102 = .ok (.goto (-97), 3) := by decide +kernel
theorem dX9_areAlike_105 : decode cX9_areAlike 105 = .ok (.iload_n 3, 1) := by decide +kernel
theorem dX9_areAlike_106 : decode cX9_areAlike 106 = .ok (.ireturn, 1) := by decide +kernel
set_option maxRecDepth 20000 in
theorem ggX9_unlikeNow_X9_finds : GoodIn wsX9_unlikeNow wsX9_finds := goodIn_r _ [6, 1, 7, 8, 9, 10, 5, 11, 12, 13, 14, 15, 16, 17, 18, 19, 20, 21, 22, 23, 24, 25, 26, 27, 28, 29, 30, 31, 32, 33, 34, 35, 36, 37, 38, 39, 40, 41, 42, 43, 44, 45, 46, 47, 48, 49, 50, 51, 52, 53, 54, 59, 60, 61, 62, 63, 64, 65, 66, 67, 68, 69, 70, 71] (by decide +kernel) (by decide +kernel)
set_option maxRecDepth 20000 in
theorem gX9_unlikeNow_X9_finds : GoodIn wsX9_unlikeNow (wsV RX9 68 RX9 yX9_finds wsX9_finds) := goodIn_app (goodIn_of _ (by decide +kernel)) ggX9_unlikeNow_X9_finds
set_option maxRecDepth 20000 in
theorem ggX9_unlikeNow_X9_areAlike : GoodIn wsX9_unlikeNow wsX9_areAlike := goodIn_r _ [58, 7, 49, 50, 12, 13, 14, 5, 15, 16, 17, 18, 19, 28, 29, 30, 31, 32, 33, 34, 59, 60, 61, 62, 63, 64, 65, 66, 67, 68, 69, 70, 71] (by decide +kernel) (by decide +kernel)
set_option maxRecDepth 20000 in
theorem gX9_unlikeNow_X9_areAlike : GoodIn wsX9_unlikeNow (wsV RX9 105 RX9 yX9_areAlike wsX9_areAlike) := goodIn_app (goodIn_of _ (by decide +kernel)) ggX9_unlikeNow_X9_areAlike
theorem dX9_unlikeNow_0 : decode cX9_unlikeNow 0 = .ok (.aload_n 0, 1) := by decide +kernel
theorem dX9_unlikeNow_1 : decode cX9_unlikeNow 1 = .ok (.invokevirtual 68, 3) := by decide +kernel
theorem dX9_unlikeNow_4 : decode cX9_unlikeNow 4 = .ok (.iconst 0, 1) := by decide +kernel
theorem dX9_unlikeNow_5 : decode cX9_unlikeNow 5 = .ok (.istore_n 1, 1) := by decide +kernel
theorem dX9_unlikeNow_6 : decode cX9_unlikeNow 6 = .ok (.iconst 0, 1) := by decide +kernel
theorem dX9_unlikeNow_7 : decode cX9_unlikeNow 7 = .ok (.istore_n 2, 1) := by decide +kernel
theorem dX9_unlikeNow_8 : decode cX9_unlikeNow 8 = .ok (.iload_n 2, 1) := by decide +kernel
theorem dX9_unlikeNow_9 : decode cX9_unlikeNow 9 = .ok (.aload_n 0, 1) := by decide +kernel
theorem dX9_unlikeNow_10 : decode cX9_unlikeNow 10 = .ok (.getfield 71, 3) := by decide +kernel
theorem dX9_unlikeNow_13 : decode cX9_unlikeNow 13 = .ok (.if_icmp .ge 58, 3) := by decide +kernel
theorem dX9_unlikeNow_16 : decode cX9_unlikeNow 16 = .ok (.iconst 1, 1) := by decide +kernel
theorem dX9_unlikeNow_17 : decode cX9_unlikeNow 17 = .ok (.istore_n 3, 1) := by decide +kernel
theorem dX9_unlikeNow_18 : decode cX9_unlikeNow 18 = .ok (.iconst 0, 1) := by decide +kernel
theorem dX9_unlikeNow_19 : decode cX9_unlikeNow 19 = .ok (.istore 4, 2) := by decide +kernel
theorem dX9_unlikeNow_21 : decode cX9_unlikeNow 21 = .ok (.iload 4, 2) := by decide +kernel
theorem dX9_unlikeNow_23 : decode cX9_unlikeNow 23 = .ok (.iload_n 2, 1) := by decide +kernel
theorem dX9_unlikeNow_24 : decode cX9_unlikeNow 24 = .ok (.if_icmp .ge 29, 3) := by decide +kernel
theorem dX9_unlikeNow_27 : decode cX9_unlikeNow 27 = .ok (.iload_n 3, 1) := by decide +kernel
theorem dX9_unlikeNow_28 : decode cX9_unlikeNow 28 = .ok (.ifCond .eq 25, 3) := by decide +kernel
theorem dX9_unlikeNow_31 : decode cX9_unlikeNow 31 = .ok (.aload_n 0, 1) := by decide +kernel
theorem dX9_unlikeNow_32 : decode cX9_unlikeNow 32 = .ok (.iload_n 2, 1) := by decide +kernel
theorem dX9_unlikeNow_33 : decode cX9_unlikeNow 33 = .ok (.iload 4, 2) := by decide +kernel
theorem dX9_unlikeNow_35 : decode cX9_unlikeNow 35 = .ok (.invokevirtual 105, 3) := by decide +kernel
theorem dX9_unlikeNow_38 : decode cX9_unlikeNow 38 = .ok (.ifCond .ne 7, 3) := by decide +kernel
theorem dX9_unlikeNow_41 : decode cX9_unlikeNow 41 = .ok (.iconst 1, 1) := by decide +kernel
theorem dX9_unlikeNow_42 : decode cX9_unlikeNow 42 = .ok (.goto 4, 3) := by decide +kernel
theorem dX9_unlikeNow_45 : decode cX9_unlikeNow 45 = .ok (.iconst 0, 1) := by decide +kernel
theorem dX9_unlikeNow_46 : decode cX9_unlikeNow 46 = .ok (.istore_n 3, 1) := by decide +kernel
theorem dX9_unlikeNow_47 : decode cX9_unlikeNow 47 = .ok (.iinc 4 1, 3) := by decide +kernel
theorem dX9_unlikeNow_50 : decode cX9_unlikeNow 50 = .ok (.goto (-29), 3) := by decide +kernel
theorem dX9_unlikeNow_53 : decode cX9_unlikeNow 53 = .ok (.iload_n 1, 1) := by decide +kernel
theorem dX9_unlikeNow_54 : decode cX9_unlikeNow 54 = .ok (.iload_n 3, 1) := by decide +kernel
theorem dX9_unlikeNow_55 : decode cX9_unlikeNow 55 = .ok (.ifCond .eq 7, 3) := by decide +kernel
theorem dX9_unlikeNow_58 : decode cX9_unlikeNow 58 = .ok (.iconst 1, 1) := by decide +kernel
theorem dX9_unlikeNow_59 : decode cX9_unlikeNow 59 = .ok (.goto 4, 3) := by decide +kernel
theorem dX9_unlikeNow_62 : decode cX9_unlikeNow 62 = .ok (.iconst 0, 1) := by decide +kernel
theorem dX9_unlikeNow_63 : decode cX9_unlikeNow 63 = .ok (.iadd, 1) := by decide +kernel
theorem dX9_unlikeNow_64 : decode cX9_unlikeNow 64 = .ok (.istore_n 1, 1) := by decide +kernel
theorem dX9_unlikeNow_65 : decode cX9_unlikeNow 65 = .ok (.iinc 2 1, 3) := by decide +kernel
theorem dX9_unlikeNow_68 : decode cX9_unlikeNow 68 = .ok (.goto (-60), 3) := by decide +kernel
theorem dX9_unlikeNow_71 : decode cX9_unlikeNow 71 = .ok (.iload_n 1, 1) := by decide +kernel
theorem dX9_unlikeNow_72 : decode cX9_unlikeNow 72 = .ok (.ireturn, 1) := by decide +kernel
set_option maxRecDepth 20000 in
theorem ggX9_unlike_X9_unlikeNow : GoodIn wsX9_unlike wsX9_unlikeNow := goodIn_r _ [5, 6, 7, 8, 9, 4, 10, 11, 12, 13, 14, 15, 16, 17, 18, 19, 20, 21, 22, 23, 24, 25, 26, 27, 28, 29, 30, 31, 32, 33, 34, 35, 36, 37, 38, 39, 40, 41, 42, 43, 44, 45, 46, 47, 48, 49, 50, 51, 52, 53, 54, 55, 56, 57, 58, 59, 60, 61, 62, 63, 64, 65, 66, 67, 68, 69, 70, 71, 72, 73, 74, 75] (by decide +kernel) (by decide +kernel)
set_option maxRecDepth 20000 in
theorem gX9_unlike_X9_unlikeNow : GoodIn wsX9_unlike (wsV RX9 74 RX9 yX9_unlikeNow wsX9_unlikeNow) := goodIn_app (goodIn_of _ (by decide +kernel)) ggX9_unlike_X9_unlikeNow
theorem dX9_unlike_0 : decode cX9_unlike 0 = .ok (.aload_n 0, 1) := by decide +kernel
theorem dX9_unlike_1 : decode cX9_unlike 1 = .ok (.invokevirtual 74, 3) := by decide +kernel
theorem dX9_unlike_4 : decode cX9_unlike 4 = .ok (.ireturn, 1) := by decide +kernel
set_option maxRecDepth 20000 in
theorem ggX9_row_X9_in : GoodIn wsX9_row wsX9_in := goodIn_r _ [8] (by decide +kernel) (by decide +kernel)
set_option maxRecDepth 20000 in
theorem gX9_row_X9_in : GoodIn wsX9_row (va_wsS RX9 32 yX9_in wsX9_in) := goodIn_app (goodIn_of _ (by decide +kernel)) ggX9_row_X9_in
set_option maxRecDepth 20000 in
theorem ggX9_row_X9_finds : GoodIn wsX9_row wsX9_finds := goodIn_r _ [12, 1, 2, 13, 14, 15, 7, 16, 17, 18, 19, 20, 21, 22, 23, 24, 25, 26, 27, 28, 29, 30, 31, 32, 33, 34, 35, 36, 37, 38, 39, 40, 41, 42, 5, 6, 8, 43, 44, 45, 46, 47, 48, 49, 50, 3, 4, 51, 52, 53, 54, 55, 56, 57, 58, 59, 60, 61, 62, 63, 64, 65, 66, 67] (by decide +kernel) (by decide +kernel)
set_option maxRecDepth 20000 in
theorem gX9_row_X9_finds : GoodIn wsX9_row (wsV RX9 68 RX9 yX9_finds wsX9_finds) := goodIn_app (goodIn_of _ (by decide +kernel)) ggX9_row_X9_finds
set_option maxRecDepth 20000 in
theorem ggX9_row_X9_teller : GoodIn wsX9_row wsX9_teller := goodIn_r _ [46, 17, 18, 19, 7, 20, 2, 21, 22, 23, 24, 29, 30, 31, 32, 55, 56, 57, 58, 59, 60, 61, 62, 63, 64, 65, 66, 67] (by decide +kernel) (by decide +kernel)
set_option maxRecDepth 20000 in
theorem gX9_row_X9_teller : GoodIn wsX9_row (wsV RX9 88 RX9 yX9_teller wsX9_teller) := goodIn_app (goodIn_of _ (by decide +kernel)) ggX9_row_X9_teller
set_option maxRecDepth 20000 in
theorem ggX9_row_X9_isAsked : GoodIn wsX9_row wsX9_isAsked := goodIn_r _ [20, 2, 21, 22, 23, 7, 24, 55, 56, 57, 58, 59, 60, 61, 62, 63, 64, 65, 66, 67] (by decide +kernel) (by decide +kernel)
set_option maxRecDepth 20000 in
theorem gX9_row_X9_isAsked : GoodIn wsX9_row (wsV RX9 82 RX9 yX9_isAsked wsX9_isAsked) := goodIn_app (goodIn_of _ (by decide +kernel)) ggX9_row_X9_isAsked
set_option maxRecDepth 20000 in
theorem ggX9_row_X9_at : GoodIn wsX9_row wsX9_at := goodIn_r _ [36, 2, 37, 38, 7, 39, 55, 56, 57, 58, 59, 60, 61, 62, 63, 64, 65, 66, 67] (by decide +kernel) (by decide +kernel)
set_option maxRecDepth 20000 in
theorem gX9_row_X9_at : GoodIn wsX9_row (wsV RX9 85 RX9 yX9_at wsX9_at) := goodIn_app (goodIn_of _ (by decide +kernel)) ggX9_row_X9_at
theorem dX9_row_0 : decode cX9_row 0 = .ok (.iload_n 1, 1) := by decide +kernel
theorem dX9_row_1 : decode cX9_row 1 = .ok (.ifCond .lt 34, 3) := by decide +kernel
theorem dX9_row_4 : decode cX9_row 4 = .ok (.iload_n 2, 1) := by decide +kernel
theorem dX9_row_5 : decode cX9_row 5 = .ok (.iconst 0, 1) := by decide +kernel
theorem dX9_row_6 : decode cX9_row 6 = .ok (.iconst 1, 1) := by decide +kernel
theorem dX9_row_7 : decode cX9_row 7 = .ok (.invokestatic 32, 3) := by decide +kernel
theorem dX9_row_10 : decode cX9_row 10 = .ok (.ifCond .ne 28, 3) := by decide +kernel
theorem dX9_row_13 : decode cX9_row 13 = .ok (.iload_n 2, 1) := by decide +kernel
theorem dX9_row_14 : decode cX9_row 14 = .ok (.bipush 10, 2) := by decide +kernel
theorem dX9_row_16 : decode cX9_row 16 = .ok (.bipush 17, 2) := by decide +kernel
theorem dX9_row_18 : decode cX9_row 18 = .ok (.invokestatic 32, 3) := by decide +kernel
theorem dX9_row_21 : decode cX9_row 21 = .ok (.ifCond .ne 17, 3) := by decide +kernel
theorem dX9_row_24 : decode cX9_row 24 = .ok (.iload_n 2, 1) := by decide +kernel
theorem dX9_row_25 : decode cX9_row 25 = .ok (.bipush 20, 2) := by decide +kernel
theorem dX9_row_27 : decode cX9_row 27 = .ok (.bipush 23, 2) := by decide +kernel
theorem dX9_row_29 : decode cX9_row 29 = .ok (.invokestatic 32, 3) := by decide +kernel
theorem dX9_row_32 : decode cX9_row 32 = .ok (.ifCond .ne 6, 3) := by decide +kernel
theorem dX9_row_35 : decode cX9_row 35 = .ok (.bipush (-11), 2) := by decide +kernel
theorem dX9_row_37 : decode cX9_row 37 = .ok (.ireturn, 1) := by decide +kernel
theorem dX9_row_38 : decode cX9_row 38 = .ok (.aload_n 0, 1) := by decide +kernel
theorem dX9_row_39 : decode cX9_row 39 = .ok (.invokevirtual 68, 3) := by decide +kernel
theorem dX9_row_42 : decode cX9_row 42 = .ok (.iload_n 1, 1) := by decide +kernel
theorem dX9_row_43 : decode cX9_row 43 = .ok (.aload_n 0, 1) := by decide +kernel
theorem dX9_row_44 : decode cX9_row 44 = .ok (.getfield 71, 3) := by decide +kernel
theorem dX9_row_47 : decode cX9_row 47 = .ok (.if_icmp .ge 18, 3) := by decide +kernel
theorem dX9_row_50 : decode cX9_row 50 = .ok (.iload_n 2, 1) := by decide +kernel
theorem dX9_row_51 : decode cX9_row 51 = .ok (.iconst 1, 1) := by decide +kernel
theorem dX9_row_52 : decode cX9_row 52 = .ok (.if_icmp .ne 16, 3) := by decide +kernel
theorem dX9_row_55 : decode cX9_row 55 = .ok (.aload_n 0, 1) := by decide +kernel
theorem dX9_row_56 : decode cX9_row 56 = .ok (.getfield 7, 3) := by decide +kernel
theorem dX9_row_59 : decode cX9_row 59 = .ok (.bipush 124, 2) := by decide +kernel
theorem dX9_row_61 : decode cX9_row 61 = .ok (.iaload, 1) := by decide +kernel
theorem dX9_row_62 : decode cX9_row 62 = .ok (.ifCond .ne 6, 3) := by decide +kernel
theorem dX9_row_65 : decode cX9_row 65 = .ok (.bipush (-14), 2) := by decide +kernel
theorem dX9_row_67 : decode cX9_row 67 = .ok (.ireturn, 1) := by decide +kernel
theorem dX9_row_68 : decode cX9_row 68 = .ok (.iload_n 2, 1) := by decide +kernel
theorem dX9_row_69 : decode cX9_row 69 = .ok (.iconst 2, 1) := by decide +kernel
theorem dX9_row_70 : decode cX9_row 70 = .ok (.if_icmp .ge 23, 3) := by decide +kernel
theorem dX9_row_73 : decode cX9_row 73 = .ok (.iload_n 2, 1) := by decide +kernel
theorem dX9_row_74 : decode cX9_row 74 = .ok (.ifCond .ne 12, 3) := by decide +kernel
theorem dX9_row_77 : decode cX9_row 77 = .ok (.aload_n 0, 1) := by decide +kernel
theorem dX9_row_78 : decode cX9_row 78 = .ok (.getfield 19, 3) := by decide +kernel
theorem dX9_row_81 : decode cX9_row 81 = .ok (.iload_n 1, 1) := by decide +kernel
theorem dX9_row_82 : decode cX9_row 82 = .ok (.iaload, 1) := by decide +kernel
theorem dX9_row_83 : decode cX9_row 83 = .ok (.goto 9, 3) := by decide +kernel
theorem dX9_row_86 : decode cX9_row 86 = .ok (.aload_n 0, 1) := by decide +kernel
theorem dX9_row_87 : decode cX9_row 87 = .ok (.getfield 22, 3) := by decide +kernel
theorem dX9_row_90 : decode cX9_row 90 = .ok (.iload_n 1, 1) := by decide +kernel
theorem dX9_row_91 : decode cX9_row 91 = .ok (.iaload, 1) := by decide +kernel
theorem dX9_row_92 : decode cX9_row 92 = .ok (.ireturn, 1) := by decide +kernel
theorem dX9_row_93 : decode cX9_row 93 = .ok (.iload_n 2, 1) := by decide +kernel
theorem dX9_row_94 : decode cX9_row 94 = .ok (.bipush 20, 2) := by decide +kernel
theorem dX9_row_96 : decode cX9_row 96 = .ok (.if_icmp .ge 10, 3) := by decide +kernel
theorem dX9_row_99 : decode cX9_row 99 = .ok (.iload_n 2, 1) := by decide +kernel
theorem dX9_row_100 : decode cX9_row 100 = .ok (.bipush 10, 2) := by decide +kernel
theorem dX9_row_102 : decode cX9_row 102 = .ok (.isub, 1) := by decide +kernel
theorem dX9_row_103 : decode cX9_row 103 = .ok (.goto 11, 3) := by decide +kernel
theorem dX9_row_106 : decode cX9_row 106 = .ok (.aload_n 0, 1) := by decide +kernel
theorem dX9_row_107 : decode cX9_row 107 = .ok (.iload_n 2, 1) := by decide +kernel
theorem dX9_row_108 : decode cX9_row 108 = .ok (.bipush 20, 2) := by decide +kernel
theorem dX9_row_110 : decode cX9_row 110 = .ok (.isub, 1) := by decide +kernel
theorem dX9_row_111 : decode cX9_row 111 = .ok (.invokevirtual 88, 3) := by decide +kernel
theorem dX9_row_114 : decode cX9_row 114 = .ok (.istore_n 3, 1) := by decide +kernel
theorem dX9_row_115 : decode cX9_row 115 = .ok (.iload_n 3, 1) := by decide +kernel
theorem dX9_row_116 : decode cX9_row 116 = .ok (.ifCond .lt 11, 3) := by decide +kernel
theorem dX9_row_119 : decode cX9_row 119 = .ok (.aload_n 0, 1) := by decide +kernel
theorem dX9_row_120 : decode cX9_row 120 = .ok (.iload_n 3, 1) := by decide +kernel
theorem dX9_row_121 : decode cX9_row 121 = .ok (.invokevirtual 82, 3) := by decide +kernel
theorem dX9_row_124 : decode cX9_row 124 = .ok (.ifCond .ne 8, 3) := by decide +kernel
theorem dX9_row_127 : decode cX9_row 127 = .ok (.bipush (-14), 2) := by decide +kernel
theorem dX9_row_129 : decode cX9_row 129 = .ok (.goto 20, 3) := by decide +kernel
theorem dX9_row_132 : decode cX9_row 132 = .ok (.aload_n 0, 1) := by decide +kernel
theorem dX9_row_133 : decode cX9_row 133 = .ok (.aload_n 0, 1) := by decide +kernel
theorem dX9_row_134 : decode cX9_row 134 = .ok (.getfield 19, 3) := by decide +kernel
theorem dX9_row_137 : decode cX9_row 137 = .ok (.iload_n 1, 1) := by decide +kernel
theorem dX9_row_138 : decode cX9_row 138 = .ok (.iaload, 1) := by decide +kernel
theorem dX9_row_139 : decode cX9_row 139 = .ok (.aload_n 0, 1) := by decide +kernel
theorem dX9_row_140 : decode cX9_row 140 = .ok (.getfield 22, 3) := by decide +kernel
theorem dX9_row_143 : decode cX9_row 143 = .ok (.iload_n 1, 1) := by decide +kernel
theorem dX9_row_144 : decode cX9_row 144 = .ok (.iaload, 1) := by decide +kernel
theorem dX9_row_145 : decode cX9_row 145 = .ok (.iload_n 3, 1) := by decide +kernel
theorem dX9_row_146 : decode cX9_row 146 = .ok (.invokevirtual 85, 3) := by decide +kernel
theorem dX9_row_149 : decode cX9_row 149 = .ok (.ireturn, 1) := by decide +kernel
set_option maxRecDepth 20000 in
theorem ggX9_isFirstOf_X9_at : GoodIn wsX9_isFirstOf wsX9_at := goodIn_r _ [7, 8, 9, 10, 6, 11, 12, 13, 14, 15, 16, 17, 18, 19, 20, 21, 22, 23, 24] (by decide +kernel) (by decide +kernel)
set_option maxRecDepth 20000 in
theorem gX9_isFirstOf_X9_at : GoodIn wsX9_isFirstOf (wsV RX9 85 RX9 yX9_at wsX9_at) := goodIn_app (goodIn_of _ (by decide +kernel)) ggX9_isFirstOf_X9_at
theorem dX9_isFirstOf_0 : decode cX9_isFirstOf 0 = .ok (.iconst 1, 1) := by decide +kernel
theorem dX9_isFirstOf_1 : decode cX9_isFirstOf 1 = .ok (.istore_n 3, 1) := by decide +kernel
theorem dX9_isFirstOf_2 : decode cX9_isFirstOf 2 = .ok (.iconst 0, 1) := by decide +kernel
theorem dX9_isFirstOf_3 : decode cX9_isFirstOf 3 = .ok (.istore 4, 2) := by decide +kernel
theorem dX9_isFirstOf_5 : decode cX9_isFirstOf 5 = .ok (.iload 4, 2) := by decide +kernel
theorem dX9_isFirstOf_7 : decode cX9_isFirstOf 7 = .ok (.iload_n 1, 1) := by decide +kernel
theorem dX9_isFirstOf_8 : decode cX9_isFirstOf 8 = .ok (.if_icmp .ge 58, 3) := by decide +kernel
theorem dX9_isFirstOf_11 : decode cX9_isFirstOf 11 = .ok (.iload_n 3, 1) := by decide +kernel
theorem dX9_isFirstOf_12 : decode cX9_isFirstOf 12 = .ok (.ifCond .eq 54, 3) := by decide +kernel
theorem dX9_isFirstOf_15 : decode cX9_isFirstOf 15 = .ok (.aload_n 0, 1) := by decide +kernel
theorem dX9_isFirstOf_16 : decode cX9_isFirstOf 16 = .ok (.aload_n 0, 1) := by decide +kernel
theorem dX9_isFirstOf_17 : decode cX9_isFirstOf 17 = .ok (.getfield 19, 3) := by decide +kernel
theorem dX9_isFirstOf_20 : decode cX9_isFirstOf 20 = .ok (.iload 4, 2) := by decide +kernel
theorem dX9_isFirstOf_22 : decode cX9_isFirstOf 22 = .ok (.iaload, 1) := by decide +kernel
theorem dX9_isFirstOf_23 : decode cX9_isFirstOf 23 = .ok (.aload_n 0, 1) := by decide +kernel
theorem dX9_isFirstOf_24 : decode cX9_isFirstOf 24 = .ok (.getfield 22, 3) := by decide +kernel
theorem dX9_isFirstOf_27 : decode cX9_isFirstOf 27 = .ok (.iload 4, 2) := by decide +kernel
theorem dX9_isFirstOf_29 : decode cX9_isFirstOf 29 = .ok (.iaload, 1) := by decide +kernel
theorem dX9_isFirstOf_30 : decode cX9_isFirstOf 30 = .ok (.iload_n 2, 1) := by decide +kernel
theorem dX9_isFirstOf_31 : decode cX9_isFirstOf 31 = .ok (.invokevirtual 85, 3) := by decide +kernel
theorem dX9_isFirstOf_34 : decode cX9_isFirstOf 34 = .ok (.aload_n 0, 1) := by decide +kernel
theorem dX9_isFirstOf_35 : decode cX9_isFirstOf 35 = .ok (.aload_n 0, 1) := by decide +kernel
theorem dX9_isFirstOf_36 : decode cX9_isFirstOf 36 = .ok (.getfield 19, 3) := by decide +kernel
theorem dX9_isFirstOf_39 : decode cX9_isFirstOf 39 = .ok (.iload_n 1, 1) := by decide +kernel
theorem dX9_isFirstOf_40 : decode cX9_isFirstOf 40 = .ok (.iaload, 1) := by decide +kernel
theorem dX9_isFirstOf_41 : decode cX9_isFirstOf 41 = .ok (.aload_n 0, 1) := by decide +kernel
theorem dX9_isFirstOf_42 : decode cX9_isFirstOf 42 = .ok (.getfield 22, 3) := by decide +kernel
theorem dX9_isFirstOf_45 : decode cX9_isFirstOf 45 = .ok (.iload_n 1, 1) := by decide +kernel
theorem dX9_isFirstOf_46 : decode cX9_isFirstOf 46 = .ok (.iaload, 1) := by decide +kernel
theorem dX9_isFirstOf_47 : decode cX9_isFirstOf 47 = .ok (.iload_n 2, 1) := by decide +kernel
theorem dX9_isFirstOf_48 : decode cX9_isFirstOf 48 = .ok (.invokevirtual 85, 3) := by decide +kernel
theorem dX9_isFirstOf_51 : decode cX9_isFirstOf 51 = .ok (.if_icmp .eq 7, 3) := by decide +kernel
theorem dX9_isFirstOf_54 : decode cX9_isFirstOf 54 = .ok (.iconst 1, 1) := by decide +kernel
theorem dX9_isFirstOf_55 : decode cX9_isFirstOf 55 = .ok (.goto 4, 3) := by decide +kernel
theorem dX9_isFirstOf_58 : decode cX9_isFirstOf 58 = .ok (.iconst 0, 1) := by decide +kernel
theorem dX9_isFirstOf_59 : decode cX9_isFirstOf 59 = .ok (.istore_n 3, 1) := by decide +kernel
theorem dX9_isFirstOf_60 : decode cX9_isFirstOf 60 = .ok (.iinc 4 1, 3) := by decide +kernel
theorem dX9_isFirstOf_63 : decode cX9_isFirstOf 63 = .ok (.goto (-58), 3) := by decide +kernel
theorem dX9_isFirstOf_66 : decode cX9_isFirstOf 66 = .ok (.iload_n 3, 1) := by decide +kernel
theorem dX9_isFirstOf_67 : decode cX9_isFirstOf 67 = .ok (.ireturn, 1) := by decide +kernel
set_option maxRecDepth 20000 in
theorem ggX9_total_X9_in : GoodIn wsX9_total wsX9_in := goodIn_r _ [7] (by decide +kernel) (by decide +kernel)
set_option maxRecDepth 20000 in
theorem gX9_total_X9_in : GoodIn wsX9_total (va_wsS RX9 32 yX9_in wsX9_in) := goodIn_app (goodIn_of _ (by decide +kernel)) ggX9_total_X9_in
set_option maxRecDepth 20000 in
theorem ggX9_total_X9_isAsked : GoodIn wsX9_total wsX9_isAsked := goodIn_r _ [11, 12, 13, 14, 15, 6, 16, 59, 60, 61, 62, 63, 64, 65, 66, 67, 68, 69, 70, 71] (by decide +kernel) (by decide +kernel)
set_option maxRecDepth 20000 in
theorem gX9_total_X9_isAsked : GoodIn wsX9_total (wsV RX9 82 RX9 yX9_isAsked wsX9_isAsked) := goodIn_app (goodIn_of _ (by decide +kernel)) ggX9_total_X9_isAsked
set_option maxRecDepth 20000 in
theorem ggX9_total_X9_finds : GoodIn wsX9_total wsX9_finds := goodIn_r _ [20, 1, 12, 21, 22, 23, 6, 24, 8, 9, 10, 11, 13, 14, 15, 16, 25, 26, 27, 28, 29, 30, 31, 32, 33, 34, 35, 36, 37, 38, 39, 40, 41, 42, 4, 5, 7, 43, 44, 45, 46, 47, 48, 49, 50, 2, 3, 51, 52, 53, 54, 59, 60, 61, 62, 63, 64, 65, 66, 67, 68, 69, 70, 71] (by decide +kernel) (by decide +kernel)
set_option maxRecDepth 20000 in
theorem gX9_total_X9_finds : GoodIn wsX9_total (wsV RX9 68 RX9 yX9_finds wsX9_finds) := goodIn_app (goodIn_of _ (by decide +kernel)) ggX9_total_X9_finds
set_option maxRecDepth 20000 in
theorem ggX9_total_X9_at : GoodIn wsX9_total wsX9_at := goodIn_r _ [36, 12, 37, 38, 6, 39, 59, 60, 61, 62, 63, 64, 65, 66, 67, 68, 69, 70, 71] (by decide +kernel) (by decide +kernel)
set_option maxRecDepth 20000 in
theorem gX9_total_X9_at : GoodIn wsX9_total (wsV RX9 85 RX9 yX9_at wsX9_at) := goodIn_app (goodIn_of _ (by decide +kernel)) ggX9_total_X9_at
set_option maxRecDepth 20000 in
theorem ggX9_total_X9_isFirstOf : GoodIn wsX9_total wsX9_isFirstOf := goodIn_r _ [58, 2, 3, 33, 34, 35, 6, 36, 12, 37, 38, 39, 59, 60, 61, 62, 63, 64, 65, 66, 67, 68, 69, 70, 71] (by decide +kernel) (by decide +kernel)
set_option maxRecDepth 20000 in
theorem gX9_total_X9_isFirstOf : GoodIn wsX9_total (wsV RX9 108 RX9 yX9_isFirstOf wsX9_isFirstOf) := goodIn_app (goodIn_of _ (by decide +kernel)) ggX9_total_X9_isFirstOf
theorem dX9_total_0 : decode cX9_total 0 = .ok (.iload_n 1, 1) := by decide +kernel
theorem dX9_total_1 : decode cX9_total 1 = .ok (.iconst 0, 1) := by decide +kernel
theorem dX9_total_2 : decode cX9_total 2 = .ok (.bipush 7, 2) := by decide +kernel
theorem dX9_total_4 : decode cX9_total 4 = .ok (.invokestatic 32, 3) := by decide +kernel
theorem dX9_total_7 : decode cX9_total 7 = .ok (.ifCond .eq 12, 3) := by decide +kernel
theorem dX9_total_10 : decode cX9_total 10 = .ok (.iload_n 2, 1) := by decide +kernel
theorem dX9_total_11 : decode cX9_total 11 = .ok (.iconst 0, 1) := by decide +kernel
theorem dX9_total_12 : decode cX9_total 12 = .ok (.iconst 4, 1) := by decide +kernel
theorem dX9_total_13 : decode cX9_total 13 = .ok (.invokestatic 32, 3) := by decide +kernel
theorem dX9_total_16 : decode cX9_total 16 = .ok (.ifCond .ne 6, 3) := by decide +kernel
theorem dX9_total_19 : decode cX9_total 19 = .ok (.bipush (-11), 2) := by decide +kernel
theorem dX9_total_21 : decode cX9_total 21 = .ok (.ireturn, 1) := by decide +kernel
theorem dX9_total_22 : decode cX9_total 22 = .ok (.aload_n 0, 1) := by decide +kernel
theorem dX9_total_23 : decode cX9_total 23 = .ok (.iload_n 1, 1) := by decide +kernel
theorem dX9_total_24 : decode cX9_total 24 = .ok (.invokevirtual 82, 3) := by decide +kernel
theorem dX9_total_27 : decode cX9_total 27 = .ok (.ifCond .ne 6, 3) := by decide +kernel
theorem dX9_total_30 : decode cX9_total 30 = .ok (.bipush (-14), 2) := by decide +kernel
theorem dX9_total_32 : decode cX9_total 32 = .ok (.ireturn, 1) := by decide +kernel
theorem dX9_total_33 : decode cX9_total 33 = .ok (.aload_n 0, 1) := by decide +kernel
theorem dX9_total_34 : decode cX9_total 34 = .ok (.invokevirtual 68, 3) := by decide +kernel
theorem dX9_total_37 : decode cX9_total 37 = .ok (.iconst 0, 1) := by decide +kernel
theorem dX9_total_38 : decode cX9_total 38 = .ok (.istore_n 3, 1) := by decide +kernel
theorem dX9_total_39 : decode cX9_total 39 = .ok (.iconst 0, 1) := by decide +kernel
theorem dX9_total_40 : decode cX9_total 40 = .ok (.istore 4, 2) := by decide +kernel
theorem dX9_total_42 : decode cX9_total 42 = .ok (.bipush (-14), 2) := by decide +kernel
theorem dX9_total_44 : decode cX9_total 44 = .ok (.istore 5, 2) := by decide +kernel
theorem dX9_total_46 : decode cX9_total 46 = .ok (.bipush (-14), 2) := by decide +kernel
theorem dX9_total_48 : decode cX9_total 48 = .ok (.istore 6, 2) := by decide +kernel
theorem dX9_total_50 : decode cX9_total 50 = .ok (.iconst 0, 1) := by decide +kernel
theorem dX9_total_51 : decode cX9_total 51 = .ok (.istore 7, 2) := by decide +kernel
theorem dX9_total_53 : decode cX9_total 53 = .ok (.iconst 0, 1) := by decide +kernel
theorem dX9_total_54 : decode cX9_total 54 = .ok (.istore 8, 2) := by decide +kernel
theorem dX9_total_56 : decode cX9_total 56 = .ok (.iload 8, 2) := by decide +kernel
theorem dX9_total_58 : decode cX9_total 58 = .ok (.aload_n 0, 1) := by decide +kernel
theorem dX9_total_59 : decode cX9_total 59 = .ok (.getfield 71, 3) := by decide +kernel
theorem dX9_total_62 : decode cX9_total 62 = .ok (.if_icmp .ge 103, 3) := by decide +kernel
theorem dX9_total_65 : decode cX9_total 65 = .ok (.aload_n 0, 1) := by decide +kernel
theorem dX9_total_66 : decode cX9_total 66 = .ok (.aload_n 0, 1) := by decide +kernel
theorem dX9_total_67 : decode cX9_total 67 = .ok (.getfield 19, 3) := by decide +kernel
theorem dX9_total_70 : decode cX9_total 70 = .ok (.iload 8, 2) := by decide +kernel
theorem dX9_total_72 : decode cX9_total 72 = .ok (.iaload, 1) := by decide +kernel
theorem dX9_total_73 : decode cX9_total 73 = .ok (.aload_n 0, 1) := by decide +kernel
theorem dX9_total_74 : decode cX9_total 74 = .ok (.getfield 22, 3) := by decide +kernel
theorem dX9_total_77 : decode cX9_total 77 = .ok (.iload 8, 2) := by decide +kernel
theorem dX9_total_79 : decode cX9_total 79 = .ok (.iaload, 1) := by decide +kernel
theorem dX9_total_80 : decode cX9_total 80 = .ok (.iload_n 1, 1) := by decide +kernel
theorem dX9_total_81 : decode cX9_total 81 = .ok (.invokevirtual 85, 3) := by decide +kernel
theorem dX9_total_84 : decode cX9_total 84 = .ok (.istore 9, 2) := by decide +kernel
theorem dX9_total_86 : decode cX9_total 86 = .ok (.iload 9, 2) := by decide +kernel
theorem dX9_total_88 : decode cX9_total 88 = .ok (.iconst (-1), 1) := by decide +kernel
theorem dX9_total_89 : decode cX9_total 89 = .ok (.if_icmp .eq 70, 3) := by decide +kernel
theorem dX9_total_92 : decode cX9_total 92 = .ok (.iinc 3 1, 3) := by decide +kernel
theorem dX9_total_95 : decode cX9_total 95 = .ok (.iload 4, 2) := by decide +kernel
theorem dX9_total_97 : decode cX9_total 97 = .ok (.iload 9, 2) := by decide +kernel
theorem dX9_total_99 : decode cX9_total 99 = .ok (.iadd, 1) := by decide +kernel
theorem dX9_total_100 : decode cX9_total 100 = .ok (.istore 4, 2) := by decide +kernel
theorem dX9_total_102 : decode cX9_total 102 = .ok (.iload 5, 2) := by decide +kernel
theorem dX9_total_104 : decode cX9_total 104 = .ok (.ifCond .lt 10, 3) := by decide +kernel
theorem dX9_total_107 : decode cX9_total 107 = .ok (.iload 9, 2) := by decide +kernel
theorem dX9_total_109 : decode cX9_total 109 = .ok (.iload 5, 2) := by decide +kernel
theorem dX9_total_111 : decode cX9_total 111 = .ok (.if_icmp .ge 8, 3) := by decide +kernel
theorem dX9_total_114 : decode cX9_total 114 = .ok (.iload 9, 2) := by decide +kernel
theorem dX9_total_116 : decode cX9_total 116 = .ok (.goto 5, 3) := by decide +kernel
theorem dX9_total_119 : decode cX9_total 119 = .ok (.iload 5, 2) := by decide +kernel
theorem dX9_total_121 : decode cX9_total 121 = .ok (.istore 5, 2) := by decide +kernel
theorem dX9_total_123 : decode cX9_total 123 = .ok (.iload 9, 2) := by decide +kernel
theorem dX9_total_125 : decode cX9_total 125 = .ok (.iload 6, 2) := by decide +kernel
theorem dX9_total_127 : decode cX9_total 127 = .ok (.if_icmp .le 8, 3) := by decide +kernel
theorem dX9_total_130 : decode cX9_total 130 = .ok (.iload 9, 2) := by decide +kernel
theorem dX9_total_132 : decode cX9_total 132 = .ok (.goto 5, 3) := by decide +kernel
theorem dX9_total_135 : decode cX9_total 135 = .ok (.iload 6, 2) := by decide +kernel
theorem dX9_total_137 : decode cX9_total 137 = .ok (.istore 6, 2) := by decide +kernel
theorem dX9_total_139 : decode cX9_total 139 = .ok (.iload 7, 2) := by decide +kernel
theorem dX9_total_141 : decode cX9_total 141 = .ok (.aload_n 0, 1) := by decide +kernel
theorem dX9_total_142 : decode cX9_total 142 = .ok (.iload 8, 2) := by decide +kernel
theorem dX9_total_144 : decode cX9_total 144 = .ok (.iload_n 1, 1) := by decide +kernel
theorem dX9_total_145 : decode cX9_total 145 = .ok (.invokevirtual 108, 3) := by decide +kernel
theorem dX9_total_148 : decode cX9_total 148 = .ok (.ifCond .eq 7, 3) := by decide +kernel
theorem dX9_total_151 : decode cX9_total 151 = .ok (.iconst 1, 1) := by decide +kernel
theorem dX9_total_152 : decode cX9_total 152 = .ok (.goto 4, 3) := by decide +kernel
theorem dX9_total_155 : decode cX9_total 155 = .ok (.iconst 0, 1) := by decide +kernel
theorem dX9_total_156 : decode cX9_total 156 = .ok (.iadd, 1) := by decide +kernel
theorem dX9_total_157 : decode cX9_total 157 = .ok (.istore 7, 2) := by decide +kernel
theorem dX9_total_159 : decode cX9_total 159 = .ok (.iinc 8 1, 3) := by decide +kernel
theorem dX9_total_162 : decode cX9_total 162 = .ok (.goto (-106), 3) := by decide +kernel
theorem dX9_total_165 : decode cX9_total 165 = .ok (.iload_n 2, 1) := by decide +kernel
theorem dX9_total_166 : decode cX9_total 166 = .ok (.ifCond .ne 7, 3) := by decide +kernel
theorem dX9_total_169 : decode cX9_total 169 = .ok (.iload_n 3, 1) := by decide +kernel
theorem dX9_total_170 : decode cX9_total 170 = .ok (.goto 35, 3) := by decide +kernel
theorem dX9_total_173 : decode cX9_total 173 = .ok (.iload_n 2, 1) := by decide +kernel
theorem dX9_total_174 : decode cX9_total 174 = .ok (.iconst 1, 1) := by decide +kernel
theorem dX9_total_175 : decode cX9_total 175 = .ok (.if_icmp .ne 8, 3) := by decide +kernel
theorem dX9_total_178 : decode cX9_total 178 = .ok (.iload 4, 2) := by decide +kernel
theorem dX9_total_180 : decode cX9_total 180 = .ok (.goto 25, 3) := by decide +kernel
theorem dX9_total_183 : decode cX9_total 183 = .ok (.iload_n 2, 1) := by decide +kernel
theorem dX9_total_184 : decode cX9_total 184 = .ok (.iconst 2, 1) := by decide +kernel
theorem dX9_total_185 : decode cX9_total 185 = .ok (.if_icmp .ne 8, 3) := by decide +kernel
theorem dX9_total_188 : decode cX9_total 188 = .ok (.iload 5, 2) := by decide +kernel
theorem dX9_total_190 : decode cX9_total 190 = .ok (.goto 15, 3) := by decide +kernel
theorem dX9_total_193 : decode cX9_total 193 = .ok (.iload_n 2, 1) := by decide +kernel
theorem dX9_total_194 : decode cX9_total 194 = .ok (.iconst 3, 1) := by decide +kernel
theorem dX9_total_195 : decode cX9_total 195 = .ok (.if_icmp .ne 8, 3) := by decide +kernel
theorem dX9_total_198 : decode cX9_total 198 = .ok (.iload 6, 2) := by decide +kernel
theorem dX9_total_200 : decode cX9_total 200 = .ok (.goto 5, 3) := by decide +kernel
theorem dX9_total_203 : decode cX9_total 203 = .ok (.iload 7, 2) := by decide +kernel
theorem dX9_total_205 : decode cX9_total 205 = .ok (.ireturn, 1) := by decide +kernel
set_option maxRecDepth 20000 in
theorem ggX9_cards_X9_isDrawer : GoodIn wsX9_cards wsX9_isDrawer := goodIn_r _ [8, 9, 10, 7, 11] (by decide +kernel) (by decide +kernel)
set_option maxRecDepth 20000 in
theorem gX9_cards_X9_isDrawer : GoodIn wsX9_cards (va_wsS RX9 36 yX9_isDrawer wsX9_isDrawer) := goodIn_app (goodIn_of _ (by decide +kernel)) ggX9_cards_X9_isDrawer
set_option maxRecDepth 20000 in
theorem ggX9_cards_X9_finds : GoodIn wsX9_cards wsX9_finds := goodIn_r _ [15, 2, 1, 16, 17, 18, 7, 19, 20, 21, 22, 23, 24, 25, 26, 27, 28, 29, 30, 31, 32, 33, 34, 35, 36, 37, 38, 39, 40, 41, 42, 43, 44, 45, 9, 10, 11, 46, 47, 48, 49, 50, 51, 52, 53, 3, 4, 54, 55, 56, 57, 58, 59, 60, 61, 62, 63, 64, 65, 66, 67, 68, 69, 70] (by decide +kernel) (by decide +kernel)
set_option maxRecDepth 20000 in
theorem gX9_cards_X9_finds : GoodIn wsX9_cards (wsV RX9 68 RX9 yX9_finds wsX9_finds) := goodIn_app (goodIn_of _ (by decide +kernel)) ggX9_cards_X9_finds
theorem dX9_cards_0 : decode cX9_cards 0 = .ok (.iload_n 1, 1) := by decide +kernel
theorem dX9_cards_1 : decode cX9_cards 1 = .ok (.invokestatic 36, 3) := by decide +kernel
theorem dX9_cards_4 : decode cX9_cards 4 = .ok (.ifCond .ne 6, 3) := by decide +kernel
theorem dX9_cards_7 : decode cX9_cards 7 = .ok (.bipush (-11), 2) := by decide +kernel
theorem dX9_cards_9 : decode cX9_cards 9 = .ok (.ireturn, 1) := by decide +kernel
theorem dX9_cards_10 : decode cX9_cards 10 = .ok (.iload_n 1, 1) := by decide +kernel
theorem dX9_cards_11 : decode cX9_cards 11 = .ok (.iconst 1, 1) := by decide +kernel
theorem dX9_cards_12 : decode cX9_cards 12 = .ok (.if_icmp .ne 16, 3) := by decide +kernel
theorem dX9_cards_15 : decode cX9_cards 15 = .ok (.aload_n 0, 1) := by decide +kernel
theorem dX9_cards_16 : decode cX9_cards 16 = .ok (.getfield 7, 3) := by decide +kernel
theorem dX9_cards_19 : decode cX9_cards 19 = .ok (.bipush 124, 2) := by decide +kernel
theorem dX9_cards_21 : decode cX9_cards 21 = .ok (.iaload, 1) := by decide +kernel
theorem dX9_cards_22 : decode cX9_cards 22 = .ok (.ifCond .ne 6, 3) := by decide +kernel
theorem dX9_cards_25 : decode cX9_cards 25 = .ok (.bipush (-12), 2) := by decide +kernel
theorem dX9_cards_27 : decode cX9_cards 27 = .ok (.ireturn, 1) := by decide +kernel
theorem dX9_cards_28 : decode cX9_cards 28 = .ok (.aload_n 0, 1) := by decide +kernel
theorem dX9_cards_29 : decode cX9_cards 29 = .ok (.invokevirtual 68, 3) := by decide +kernel
theorem dX9_cards_32 : decode cX9_cards 32 = .ok (.iconst 0, 1) := by decide +kernel
theorem dX9_cards_33 : decode cX9_cards 33 = .ok (.istore_n 2, 1) := by decide +kernel
theorem dX9_cards_34 : decode cX9_cards 34 = .ok (.iconst 0, 1) := by decide +kernel
theorem dX9_cards_35 : decode cX9_cards 35 = .ok (.istore_n 3, 1) := by decide +kernel
theorem dX9_cards_36 : decode cX9_cards 36 = .ok (.iload_n 3, 1) := by decide +kernel
theorem dX9_cards_37 : decode cX9_cards 37 = .ok (.aload_n 0, 1) := by decide +kernel
theorem dX9_cards_38 : decode cX9_cards 38 = .ok (.getfield 71, 3) := by decide +kernel
theorem dX9_cards_41 : decode cX9_cards 41 = .ok (.if_icmp .ge 33, 3) := by decide +kernel
theorem dX9_cards_44 : decode cX9_cards 44 = .ok (.iload_n 2, 1) := by decide +kernel
theorem dX9_cards_45 : decode cX9_cards 45 = .ok (.iconst 1, 1) := by decide +kernel
theorem dX9_cards_46 : decode cX9_cards 46 = .ok (.iload_n 1, 1) := by decide +kernel
theorem dX9_cards_47 : decode cX9_cards 47 = .ok (.ifCond .ne 12, 3) := by decide +kernel
theorem dX9_cards_50 : decode cX9_cards 50 = .ok (.aload_n 0, 1) := by decide +kernel
theorem dX9_cards_51 : decode cX9_cards 51 = .ok (.getfield 19, 3) := by decide +kernel
theorem dX9_cards_54 : decode cX9_cards 54 = .ok (.iload_n 3, 1) := by decide +kernel
theorem dX9_cards_55 : decode cX9_cards 55 = .ok (.iaload, 1) := by decide +kernel
theorem dX9_cards_56 : decode cX9_cards 56 = .ok (.goto 9, 3) := by decide +kernel
theorem dX9_cards_59 : decode cX9_cards 59 = .ok (.aload_n 0, 1) := by decide +kernel
theorem dX9_cards_60 : decode cX9_cards 60 = .ok (.getfield 22, 3) := by decide +kernel
theorem dX9_cards_63 : decode cX9_cards 63 = .ok (.iload_n 3, 1) := by decide +kernel
theorem dX9_cards_64 : decode cX9_cards 64 = .ok (.iaload, 1) := by decide +kernel
theorem dX9_cards_65 : decode cX9_cards 65 = .ok (.ishl, 1) := by decide +kernel
theorem dX9_cards_66 : decode cX9_cards 66 = .ok (.ior, 1) := by decide +kernel
theorem dX9_cards_67 : decode cX9_cards 67 = .ok (.istore_n 2, 1) := by decide +kernel
theorem dX9_cards_68 : decode cX9_cards 68 = .ok (.iinc 3 1, 3) := by decide +kernel
theorem dX9_cards_71 : decode cX9_cards 71 = .ok (.goto (-35), 3) := by decide +kernel
theorem dX9_cards_74 : decode cX9_cards 74 = .ok (.iload_n 2, 1) := by decide +kernel
theorem dX9_cards_75 : decode cX9_cards 75 = .ok (.ireturn, 1) := by decide +kernel
set_option maxRecDepth 20000 in
theorem ggX9_why_X9_isCard : GoodIn wsX9_why wsX9_isCard := goodIn_r _ [6, 1, 44, 45, 46, 47, 48, 49, 50, 51, 52, 53, 54, 55, 56] (by decide +kernel) (by decide +kernel)
set_option maxRecDepth 20000 in
theorem gX9_why_X9_isCard : GoodIn wsX9_why (wsV RX9 51 RX9 yX9_isCard wsX9_isCard) := goodIn_app (goodIn_of _ (by decide +kernel)) ggX9_why_X9_isCard
set_option maxRecDepth 20000 in
theorem ggX9_why_X9_unfit : GoodIn wsX9_why wsX9_unfit := goodIn_r _ [10, 11, 12, 13, 5, 14, 1, 15, 16, 17, 18, 19, 20, 21, 22, 23, 24, 25, 26, 27, 28, 29, 30, 31, 32, 33, 34, 35, 36, 37, 38, 39, 40, 41, 42, 43, 44, 45, 46, 47, 48, 49, 50, 51, 52, 53, 54, 55, 56] (by decide +kernel) (by decide +kernel)
set_option maxRecDepth 20000 in
theorem gX9_why_X9_unfit : GoodIn wsX9_why (wsV RX9 97 RX9 yX9_unfit wsX9_unfit) := goodIn_app (goodIn_of _ (by decide +kernel)) ggX9_why_X9_unfit
theorem dX9_why_0 : decode cX9_why 0 = .ok (.aload_n 0, 1) := by decide +kernel
theorem dX9_why_1 : decode cX9_why 1 = .ok (.iconst 0, 1) := by decide +kernel
theorem dX9_why_2 : decode cX9_why 2 = .ok (.iload_n 1, 1) := by decide +kernel
theorem dX9_why_3 : decode cX9_why 3 = .ok (.invokevirtual 51, 3) := by decide +kernel
theorem dX9_why_6 : decode cX9_why 6 = .ok (.ifCond .eq 30, 3) := by decide +kernel
theorem dX9_why_9 : decode cX9_why 9 = .ok (.aload_n 0, 1) := by decide +kernel
theorem dX9_why_10 : decode cX9_why 10 = .ok (.getfield 7, 3) := by decide +kernel
theorem dX9_why_13 : decode cX9_why 13 = .ok (.bipush 124, 2) := by decide +kernel
theorem dX9_why_15 : decode cX9_why 15 = .ok (.iaload, 1) := by decide +kernel
theorem dX9_why_16 : decode cX9_why 16 = .ok (.iconst 1, 1) := by decide +kernel
theorem dX9_why_17 : decode cX9_why 17 = .ok (.if_icmp .ne 15, 3) := by decide +kernel
theorem dX9_why_20 : decode cX9_why 20 = .ok (.aload_n 0, 1) := by decide +kernel
theorem dX9_why_21 : decode cX9_why 21 = .ok (.iconst 1, 1) := by decide +kernel
theorem dX9_why_22 : decode cX9_why 22 = .ok (.iload_n 2, 1) := by decide +kernel
theorem dX9_why_23 : decode cX9_why 23 = .ok (.invokevirtual 51, 3) := by decide +kernel
theorem dX9_why_26 : decode cX9_why 26 = .ok (.ifCond .ne 13, 3) := by decide +kernel
theorem dX9_why_29 : decode cX9_why 29 = .ok (.goto 7, 3) := by decide +kernel
theorem dX9_why_32 : decode cX9_why 32 = .ok (.iload_n 2, 1) := by decide +kernel
theorem dX9_why_33 : decode cX9_why 33 = .ok (.ifCond .eq 6, 3) := by decide +kernel
theorem dX9_why_36 : decode cX9_why 36 = .ok (.bipush (-11), 2) := by decide +kernel
theorem dX9_why_38 : decode cX9_why 38 = .ok (.ireturn, 1) := by decide +kernel
theorem dX9_why_39 : decode cX9_why 39 = .ok (.aload_n 0, 1) := by decide +kernel
theorem dX9_why_40 : decode cX9_why 40 = .ok (.iload_n 1, 1) := by decide +kernel
theorem dX9_why_41 : decode cX9_why 41 = .ok (.iload_n 2, 1) := by decide +kernel
theorem dX9_why_42 : decode cX9_why 42 = .ok (.invokevirtual 97, 3) := by decide +kernel
theorem dX9_why_45 : decode cX9_why 45 = .ok (.ireturn, 1) := by decide +kernel
set_option maxRecDepth 20000 in
theorem ggX9_tightest_X9_in : GoodIn wsX9_tightest wsX9_in := goodIn_r _ [5] (by decide +kernel) (by decide +kernel)
set_option maxRecDepth 20000 in
theorem gX9_tightest_X9_in : GoodIn wsX9_tightest (va_wsS RX9 32 yX9_in wsX9_in) := goodIn_app (goodIn_of _ (by decide +kernel)) ggX9_tightest_X9_in
set_option maxRecDepth 20000 in
theorem ggX9_tightest_X9_many : GoodIn wsX9_tightest wsX9_many := goodIn_r _ [9, 10, 11, 12, 13, 4, 14, 1, 15, 16, 17, 18, 19, 20, 21, 22, 23, 24, 25, 26, 27, 28, 29, 30, 31, 32, 33, 34, 35, 36, 37, 38, 39, 40, 41, 42, 43, 44, 2, 3, 5, 45, 46, 47, 48, 49, 50, 51, 52, 53, 54, 55, 56, 57, 58, 59, 60, 61, 62, 63, 64, 65, 66, 67, 68, 69, 70, 71] (by decide +kernel) (by decide +kernel)
set_option maxRecDepth 20000 in
theorem gX9_tightest_X9_many : GoodIn wsX9_tightest (wsV RX9 111 RX9 yX9_many wsX9_many) := goodIn_app (goodIn_of _ (by decide +kernel)) ggX9_tightest_X9_many
set_option maxRecDepth 20000 in
theorem ggX9_tightest_X9_isAsked : GoodIn wsX9_tightest wsX9_isAsked := goodIn_r _ [22, 1, 23, 24, 25, 4, 26, 59, 60, 61, 62, 63, 64, 65, 66, 67, 68, 69, 70, 71] (by decide +kernel) (by decide +kernel)
set_option maxRecDepth 20000 in
theorem gX9_tightest_X9_isAsked : GoodIn wsX9_tightest (wsV RX9 82 RX9 yX9_isAsked wsX9_isAsked) := goodIn_app (goodIn_of _ (by decide +kernel)) ggX9_tightest_X9_isAsked
theorem dX9_tightest_0 : decode cX9_tightest 0 = .ok (.iload_n 1, 1) := by decide +kernel
theorem dX9_tightest_1 : decode cX9_tightest 1 = .ok (.iconst 0, 1) := by decide +kernel
theorem dX9_tightest_2 : decode cX9_tightest 2 = .ok (.iconst 1, 1) := by decide +kernel
theorem dX9_tightest_3 : decode cX9_tightest 3 = .ok (.invokestatic 32, 3) := by decide +kernel
theorem dX9_tightest_6 : decode cX9_tightest 6 = .ok (.ifCond .ne 6, 3) := by decide +kernel
theorem dX9_tightest_9 : decode cX9_tightest 9 = .ok (.bipush (-11), 2) := by decide +kernel
theorem dX9_tightest_11 : decode cX9_tightest 11 = .ok (.ireturn, 1) := by decide +kernel
theorem dX9_tightest_12 : decode cX9_tightest 12 = .ok (.aload_n 0, 1) := by decide +kernel
theorem dX9_tightest_13 : decode cX9_tightest 13 = .ok (.invokevirtual 111, 3) := by decide +kernel
theorem dX9_tightest_16 : decode cX9_tightest 16 = .ok (.istore_n 2, 1) := by decide +kernel
theorem dX9_tightest_17 : decode cX9_tightest 17 = .ok (.bipush (-14), 2) := by decide +kernel
theorem dX9_tightest_19 : decode cX9_tightest 19 = .ok (.istore_n 3, 1) := by decide +kernel
theorem dX9_tightest_20 : decode cX9_tightest 20 = .ok (.iconst 0, 1) := by decide +kernel
theorem dX9_tightest_21 : decode cX9_tightest 21 = .ok (.istore 4, 2) := by decide +kernel
theorem dX9_tightest_23 : decode cX9_tightest 23 = .ok (.iload 4, 2) := by decide +kernel
theorem dX9_tightest_25 : decode cX9_tightest 25 = .ok (.bipush 8, 2) := by decide +kernel
theorem dX9_tightest_27 : decode cX9_tightest 27 = .ok (.if_icmp .ge 90, 3) := by decide +kernel
theorem dX9_tightest_30 : decode cX9_tightest 30 = .ok (.bipush 100, 2) := by decide +kernel
theorem dX9_tightest_32 : decode cX9_tightest 32 = .ok (.iconst 3, 1) := by decide +kernel
theorem dX9_tightest_33 : decode cX9_tightest 33 = .ok (.iload 4, 2) := by decide +kernel
theorem dX9_tightest_35 : decode cX9_tightest 35 = .ok (.imul, 1) := by decide +kernel
theorem dX9_tightest_36 : decode cX9_tightest 36 = .ok (.iadd, 1) := by decide +kernel
theorem dX9_tightest_37 : decode cX9_tightest 37 = .ok (.istore 5, 2) := by decide +kernel
theorem dX9_tightest_39 : decode cX9_tightest 39 = .ok (.aload_n 0, 1) := by decide +kernel
theorem dX9_tightest_40 : decode cX9_tightest 40 = .ok (.getfield 7, 3) := by decide +kernel
theorem dX9_tightest_43 : decode cX9_tightest 43 = .ok (.iload 5, 2) := by decide +kernel
theorem dX9_tightest_45 : decode cX9_tightest 45 = .ok (.iaload, 1) := by decide +kernel
theorem dX9_tightest_46 : decode cX9_tightest 46 = .ok (.istore 6, 2) := by decide +kernel
theorem dX9_tightest_48 : decode cX9_tightest 48 = .ok (.aload_n 0, 1) := by decide +kernel
theorem dX9_tightest_49 : decode cX9_tightest 49 = .ok (.getfield 7, 3) := by decide +kernel
theorem dX9_tightest_52 : decode cX9_tightest 52 = .ok (.iload 5, 2) := by decide +kernel
theorem dX9_tightest_54 : decode cX9_tightest 54 = .ok (.aload_n 0, 1) := by decide +kernel
theorem dX9_tightest_55 : decode cX9_tightest 55 = .ok (.iload 4, 2) := by decide +kernel
theorem dX9_tightest_57 : decode cX9_tightest 57 = .ok (.invokevirtual 82, 3) := by decide +kernel
theorem dX9_tightest_60 : decode cX9_tightest 60 = .ok (.ifCond .eq 7, 3) := by decide +kernel
theorem dX9_tightest_63 : decode cX9_tightest 63 = .ok (.iconst 0, 1) := by decide +kernel
theorem dX9_tightest_64 : decode cX9_tightest 64 = .ok (.goto 5, 3) := by decide +kernel
theorem dX9_tightest_67 : decode cX9_tightest 67 = .ok (.iload 6, 2) := by decide +kernel
theorem dX9_tightest_69 : decode cX9_tightest 69 = .ok (.iastore, 1) := by decide +kernel
theorem dX9_tightest_70 : decode cX9_tightest 70 = .ok (.aload_n 0, 1) := by decide +kernel
theorem dX9_tightest_71 : decode cX9_tightest 71 = .ok (.invokevirtual 111, 3) := by decide +kernel
theorem dX9_tightest_74 : decode cX9_tightest 74 = .ok (.istore 7, 2) := by decide +kernel
theorem dX9_tightest_76 : decode cX9_tightest 76 = .ok (.aload_n 0, 1) := by decide +kernel
theorem dX9_tightest_77 : decode cX9_tightest 77 = .ok (.getfield 7, 3) := by decide +kernel
theorem dX9_tightest_80 : decode cX9_tightest 80 = .ok (.iload 5, 2) := by decide +kernel
theorem dX9_tightest_82 : decode cX9_tightest 82 = .ok (.iload 6, 2) := by decide +kernel
theorem dX9_tightest_84 : decode cX9_tightest 84 = .ok (.iastore, 1) := by decide +kernel
theorem dX9_tightest_85 : decode cX9_tightest 85 = .ok (.iload 7, 2) := by decide +kernel
theorem dX9_tightest_87 : decode cX9_tightest 87 = .ok (.iload_n 2, 1) := by decide +kernel
theorem dX9_tightest_88 : decode cX9_tightest 88 = .ok (.if_icmp .le 8, 3) := by decide +kernel
theorem dX9_tightest_91 : decode cX9_tightest 91 = .ok (.iload 4, 2) := by decide +kernel
theorem dX9_tightest_93 : decode cX9_tightest 93 = .ok (.goto 4, 3) := by decide +kernel
theorem dX9_tightest_96 : decode cX9_tightest 96 = .ok (.iload_n 3, 1) := by decide +kernel
theorem dX9_tightest_97 : decode cX9_tightest 97 = .ok (.istore_n 3, 1) := by decide +kernel
theorem dX9_tightest_98 : decode cX9_tightest 98 = .ok (.iload 7, 2) := by decide +kernel
theorem dX9_tightest_100 : decode cX9_tightest 100 = .ok (.iload_n 2, 1) := by decide +kernel
theorem dX9_tightest_101 : decode cX9_tightest 101 = .ok (.if_icmp .le 8, 3) := by decide +kernel
theorem dX9_tightest_104 : decode cX9_tightest 104 = .ok (.iload 7, 2) := by decide +kernel
theorem dX9_tightest_106 : decode cX9_tightest 106 = .ok (.goto 4, 3) := by decide +kernel
theorem dX9_tightest_109 : decode cX9_tightest 109 = .ok (.iload_n 2, 1) := by decide +kernel
theorem dX9_tightest_110 : decode cX9_tightest 110 = .ok (.istore_n 2, 1) := by decide +kernel
theorem dX9_tightest_111 : decode cX9_tightest 111 = .ok (.iinc 4 1, 3) := by decide +kernel
theorem dX9_tightest_114 : decode cX9_tightest 114 = .ok (.goto (-91), 3) := by decide +kernel
theorem dX9_tightest_117 : decode cX9_tightest 117 = .ok (.iload_n 3, 1) := by decide +kernel
theorem dX9_tightest_118 : decode cX9_tightest 118 = .ok (.ifCond .lt 7, 3) := by decide +kernel
theorem dX9_tightest_121 : decode cX9_tightest 121 = .ok (.iload_n 1, 1) := by decide +kernel
theorem dX9_tightest_122 : decode cX9_tightest 122 = .ok (.ifCond .ne 7, 3) := by decide +kernel
theorem dX9_tightest_125 : decode cX9_tightest 125 = .ok (.iload_n 3, 1) := by decide +kernel
theorem dX9_tightest_126 : decode cX9_tightest 126 = .ok (.goto 4, 3) := by decide +kernel
theorem dX9_tightest_129 : decode cX9_tightest 129 = .ok (.iload_n 2, 1) := by decide +kernel
theorem dX9_tightest_130 : decode cX9_tightest 130 = .ok (.ireturn, 1) := by decide +kernel
set_option maxRecDepth 20000 in
theorem ggX9_count_X9_others : GoodIn wsX9_count wsX9_others := goodIn_r _ [8, 1, 9, 10, 11, 7, 12, 13, 14, 15, 16, 17, 18, 19, 20, 21, 22, 23, 24, 25] (by decide +kernel) (by decide +kernel)
set_option maxRecDepth 20000 in
theorem gX9_count_X9_others : GoodIn wsX9_count (wsV RX9 64 RX9 yX9_others wsX9_others) := goodIn_app (goodIn_of _ (by decide +kernel)) ggX9_count_X9_others
theorem dX9_count_0 : decode cX9_count 0 = .ok (.iload_n 1, 1) := by decide +kernel
theorem dX9_count_1 : decode cX9_count 1 = .ok (.tableswitch 160 0 13 #[71, 71, 80, 80, 91, 99, 111, 120, 125, 160, 130, 130, 145, 145], 71) := by decide +kernel
theorem dX9_count_72 : decode cX9_count 72 = .ok (.aload_n 0, 1) := by decide +kernel
theorem dX9_count_73 : decode cX9_count 73 = .ok (.getfield 7, 3) := by decide +kernel
theorem dX9_count_76 : decode cX9_count 76 = .ok (.iconst 2, 1) := by decide +kernel
theorem dX9_count_77 : decode cX9_count 77 = .ok (.iload_n 1, 1) := by decide +kernel
theorem dX9_count_78 : decode cX9_count 78 = .ok (.iadd, 1) := by decide +kernel
theorem dX9_count_79 : decode cX9_count 79 = .ok (.iaload, 1) := by decide +kernel
theorem dX9_count_80 : decode cX9_count 80 = .ok (.ireturn, 1) := by decide +kernel
theorem dX9_count_81 : decode cX9_count 81 = .ok (.aload_n 0, 1) := by decide +kernel
theorem dX9_count_82 : decode cX9_count 82 = .ok (.getfield 7, 3) := by decide +kernel
theorem dX9_count_85 : decode cX9_count 85 = .ok (.iconst 0, 1) := by decide +kernel
theorem dX9_count_86 : decode cX9_count 86 = .ok (.iload_n 1, 1) := by decide +kernel
theorem dX9_count_87 : decode cX9_count 87 = .ok (.iadd, 1) := by decide +kernel
theorem dX9_count_88 : decode cX9_count 88 = .ok (.iconst 2, 1) := by decide +kernel
theorem dX9_count_89 : decode cX9_count 89 = .ok (.isub, 1) := by decide +kernel
theorem dX9_count_90 : decode cX9_count 90 = .ok (.iaload, 1) := by decide +kernel
theorem dX9_count_91 : decode cX9_count 91 = .ok (.ireturn, 1) := by decide +kernel
theorem dX9_count_92 : decode cX9_count 92 = .ok (.aload_n 0, 1) := by decide +kernel
theorem dX9_count_93 : decode cX9_count 93 = .ok (.getfield 7, 3) := by decide +kernel
theorem dX9_count_96 : decode cX9_count 96 = .ok (.bipush 124, 2) := by decide +kernel
theorem dX9_count_98 : decode cX9_count 98 = .ok (.iaload, 1) := by decide +kernel
theorem dX9_count_99 : decode cX9_count 99 = .ok (.ireturn, 1) := by decide +kernel
theorem dX9_count_100 : decode cX9_count 100 = .ok (.aload_n 0, 1) := by decide +kernel
theorem dX9_count_101 : decode cX9_count 101 = .ok (.iconst 0, 1) := by decide +kernel
theorem dX9_count_102 : decode cX9_count 102 = .ok (.invokevirtual 64, 3) := by decide +kernel
theorem dX9_count_105 : decode cX9_count 105 = .ok (.aload_n 0, 1) := by decide +kernel
theorem dX9_count_106 : decode cX9_count 106 = .ok (.iconst 1, 1) := by decide +kernel
theorem dX9_count_107 : decode cX9_count 107 = .ok (.invokevirtual 64, 3) := by decide +kernel
theorem dX9_count_110 : decode cX9_count 110 = .ok (.iadd, 1) := by decide +kernel
theorem dX9_count_111 : decode cX9_count 111 = .ok (.ireturn, 1) := by decide +kernel
theorem dX9_count_112 : decode cX9_count 112 = .ok (.aload_n 0, 1) := by decide +kernel
theorem dX9_count_113 : decode cX9_count 113 = .ok (.getfield 7, 3) := by decide +kernel
theorem dX9_count_116 : decode cX9_count 116 = .ok (.sipush 129, 3) := by decide +kernel
theorem dX9_count_119 : decode cX9_count 119 = .ok (.iaload, 1) := by decide +kernel
theorem dX9_count_120 : decode cX9_count 120 = .ok (.ireturn, 1) := by decide +kernel
theorem dX9_count_121 : decode cX9_count 121 = .ok (.aload_n 0, 1) := by decide +kernel
theorem dX9_count_122 : decode cX9_count 122 = .ok (.getfield 28, 3) := by decide +kernel
theorem dX9_count_125 : decode cX9_count 125 = .ok (.ireturn, 1) := by decide +kernel
theorem dX9_count_126 : decode cX9_count 126 = .ok (.aload_n 0, 1) := by decide +kernel
theorem dX9_count_127 : decode cX9_count 127 = .ok (.getfield 114, 3) := by decide +kernel
theorem dX9_count_130 : decode cX9_count 130 = .ok (.ireturn, 1) := by decide +kernel
theorem dX9_count_131 : decode cX9_count 131 = .ok (.aload_n 0, 1) := by decide +kernel
theorem dX9_count_132 : decode cX9_count 132 = .ok (.getfield 7, 3) := by decide +kernel
theorem dX9_count_135 : decode cX9_count 135 = .ok (.bipush 125, 2) := by decide +kernel
theorem dX9_count_137 : decode cX9_count 137 = .ok (.iconst 2, 1) := by decide +kernel
theorem dX9_count_138 : decode cX9_count 138 = .ok (.iload_n 1, 1) := by decide +kernel
theorem dX9_count_139 : decode cX9_count 139 = .ok (.bipush 10, 2) := by decide +kernel
theorem dX9_count_141 : decode cX9_count 141 = .ok (.isub, 1) := by decide +kernel
theorem dX9_count_142 : decode cX9_count 142 = .ok (.imul, 1) := by decide +kernel
theorem dX9_count_143 : decode cX9_count 143 = .ok (.iadd, 1) := by decide +kernel
theorem dX9_count_144 : decode cX9_count 144 = .ok (.iaload, 1) := by decide +kernel
theorem dX9_count_145 : decode cX9_count 145 = .ok (.ireturn, 1) := by decide +kernel
theorem dX9_count_146 : decode cX9_count 146 = .ok (.aload_n 0, 1) := by decide +kernel
theorem dX9_count_147 : decode cX9_count 147 = .ok (.getfield 7, 3) := by decide +kernel
theorem dX9_count_150 : decode cX9_count 150 = .ok (.bipush 126, 2) := by decide +kernel
theorem dX9_count_152 : decode cX9_count 152 = .ok (.iconst 2, 1) := by decide +kernel
theorem dX9_count_153 : decode cX9_count 153 = .ok (.iload_n 1, 1) := by decide +kernel
theorem dX9_count_154 : decode cX9_count 154 = .ok (.bipush 12, 2) := by decide +kernel
theorem dX9_count_156 : decode cX9_count 156 = .ok (.isub, 1) := by decide +kernel
theorem dX9_count_157 : decode cX9_count 157 = .ok (.imul, 1) := by decide +kernel
theorem dX9_count_158 : decode cX9_count 158 = .ok (.iadd, 1) := by decide +kernel
theorem dX9_count_159 : decode cX9_count 159 = .ok (.iaload, 1) := by decide +kernel
theorem dX9_count_160 : decode cX9_count 160 = .ok (.ireturn, 1) := by decide +kernel
theorem dX9_count_161 : decode cX9_count 161 = .ok (.bipush (-11), 2) := by decide +kernel
theorem dX9_count_163 : decode cX9_count 163 = .ok (.ireturn, 1) := by decide +kernel
theorem dX9_undo_0 : decode cX9_undo 0 = .ok (.aload_n 0, 1) := by decide +kernel
theorem dX9_undo_1 : decode cX9_undo 1 = .ok (.getfield 28, 3) := by decide +kernel
theorem dX9_undo_4 : decode cX9_undo 4 = .ok (.ifCond .ne 6, 3) := by decide +kernel
theorem dX9_undo_7 : decode cX9_undo 7 = .ok (.bipush (-12), 2) := by decide +kernel
theorem dX9_undo_9 : decode cX9_undo 9 = .ok (.ireturn, 1) := by decide +kernel
theorem dX9_undo_10 : decode cX9_undo 10 = .ok (.aload_n 0, 1) := by decide +kernel
theorem dX9_undo_11 : decode cX9_undo 11 = .ok (.dup, 1) := by decide +kernel
theorem dX9_undo_12 : decode cX9_undo 12 = .ok (.getfield 28, 3) := by decide +kernel
theorem dX9_undo_15 : decode cX9_undo 15 = .ok (.iconst 1, 1) := by decide +kernel
theorem dX9_undo_16 : decode cX9_undo 16 = .ok (.isub, 1) := by decide +kernel
theorem dX9_undo_17 : decode cX9_undo 17 = .ok (.putfield 28, 3) := by decide +kernel
theorem dX9_undo_20 : decode cX9_undo 20 = .ok (.iconst 0, 1) := by decide +kernel
theorem dX9_undo_21 : decode cX9_undo 21 = .ok (.istore_n 1, 1) := by decide +kernel
theorem dX9_undo_22 : decode cX9_undo 22 = .ok (.iload_n 1, 1) := by decide +kernel
theorem dX9_undo_23 : decode cX9_undo 23 = .ok (.sipush 130, 3) := by decide +kernel
theorem dX9_undo_26 : decode cX9_undo 26 = .ok (.if_icmp .ge 30, 3) := by decide +kernel
theorem dX9_undo_29 : decode cX9_undo 29 = .ok (.aload_n 0, 1) := by decide +kernel
theorem dX9_undo_30 : decode cX9_undo 30 = .ok (.getfield 7, 3) := by decide +kernel
theorem dX9_undo_33 : decode cX9_undo 33 = .ok (.iload_n 1, 1) := by decide +kernel
theorem dX9_undo_34 : decode cX9_undo 34 = .ok (.aload_n 0, 1) := by decide +kernel
theorem dX9_undo_35 : decode cX9_undo 35 = .ok (.getfield 13, 3) := by decide +kernel
theorem dX9_undo_38 : decode cX9_undo 38 = .ok (.sipush 130, 3) := by decide +kernel
theorem dX9_undo_41 : decode cX9_undo 41 = .ok (.aload_n 0, 1) := by decide +kernel
theorem dX9_undo_42 : decode cX9_undo 42 = .ok (.getfield 28, 3) := by decide +kernel
theorem dX9_undo_45 : decode cX9_undo 45 = .ok (.imul, 1) := by decide +kernel
theorem dX9_undo_46 : decode cX9_undo 46 = .ok (.iload_n 1, 1) := by decide +kernel
theorem dX9_undo_47 : decode cX9_undo 47 = .ok (.iadd, 1) := by decide +kernel
theorem dX9_undo_48 : decode cX9_undo 48 = .ok (.iaload, 1) := by decide +kernel
theorem dX9_undo_49 : decode cX9_undo 49 = .ok (.iastore, 1) := by decide +kernel
theorem dX9_undo_50 : decode cX9_undo 50 = .ok (.iinc 1 1, 3) := by decide +kernel
theorem dX9_undo_53 : decode cX9_undo 53 = .ok (.goto (-31), 3) := by decide +kernel
theorem dX9_undo_56 : decode cX9_undo 56 = .ok (.aload_n 0, 1) := by decide +kernel
theorem dX9_undo_57 : decode cX9_undo 57 = .ok (.getfield 28, 3) := by decide +kernel
theorem dX9_undo_60 : decode cX9_undo 60 = .ok (.ireturn, 1) := by decide +kernel
set_option maxRecDepth 20000 in
theorem ggX9_type_X9_in : GoodIn wsX9_type wsX9_in := goodIn_r _ [6] (by decide +kernel) (by decide +kernel)
set_option maxRecDepth 20000 in
theorem gX9_type_X9_in : GoodIn wsX9_type (va_wsS RX9 32 yX9_in wsX9_in) := goodIn_app (goodIn_of _ (by decide +kernel)) ggX9_type_X9_in
theorem dX9_type_0 : decode cX9_type 0 = .ok (.iload_n 1, 1) := by decide +kernel
theorem dX9_type_1 : decode cX9_type 1 = .ok (.bipush 32, 2) := by decide +kernel
theorem dX9_type_3 : decode cX9_type 3 = .ok (.bipush 126, 2) := by decide +kernel
theorem dX9_type_5 : decode cX9_type 5 = .ok (.invokestatic 32, 3) := by decide +kernel
theorem dX9_type_8 : decode cX9_type 8 = .ok (.ifCond .ne 6, 3) := by decide +kernel
theorem dX9_type_11 : decode cX9_type 11 = .ok (.bipush (-11), 2) := by decide +kernel
theorem dX9_type_13 : decode cX9_type 13 = .ok (.ireturn, 1) := by decide +kernel
theorem dX9_type_14 : decode cX9_type 14 = .ok (.aload_n 0, 1) := by decide +kernel
theorem dX9_type_15 : decode cX9_type 15 = .ok (.getfield 114, 3) := by decide +kernel
theorem dX9_type_18 : decode cX9_type 18 = .ok (.bipush 60, 2) := by decide +kernel
theorem dX9_type_20 : decode cX9_type 20 = .ok (.if_icmp .ne 6, 3) := by decide +kernel
theorem dX9_type_23 : decode cX9_type 23 = .ok (.bipush (-13), 2) := by decide +kernel
theorem dX9_type_25 : decode cX9_type 25 = .ok (.ireturn, 1) := by decide +kernel
theorem dX9_type_26 : decode cX9_type 26 = .ok (.aload_n 0, 1) := by decide +kernel
theorem dX9_type_27 : decode cX9_type 27 = .ok (.getfield 16, 3) := by decide +kernel
theorem dX9_type_30 : decode cX9_type 30 = .ok (.aload_n 0, 1) := by decide +kernel
theorem dX9_type_31 : decode cX9_type 31 = .ok (.getfield 114, 3) := by decide +kernel
theorem dX9_type_34 : decode cX9_type 34 = .ok (.iload_n 1, 1) := by decide +kernel
theorem dX9_type_35 : decode cX9_type 35 = .ok (.iastore, 1) := by decide +kernel
theorem dX9_type_36 : decode cX9_type 36 = .ok (.aload_n 0, 1) := by decide +kernel
theorem dX9_type_37 : decode cX9_type 37 = .ok (.dup, 1) := by decide +kernel
theorem dX9_type_38 : decode cX9_type 38 = .ok (.getfield 114, 3) := by decide +kernel
theorem dX9_type_41 : decode cX9_type 41 = .ok (.iconst 1, 1) := by decide +kernel
theorem dX9_type_42 : decode cX9_type 42 = .ok (.iadd, 1) := by decide +kernel
theorem dX9_type_43 : decode cX9_type 43 = .ok (.putfield 114, 3) := by decide +kernel
theorem dX9_type_46 : decode cX9_type 46 = .ok (.aload_n 0, 1) := by decide +kernel
theorem dX9_type_47 : decode cX9_type 47 = .ok (.getfield 114, 3) := by decide +kernel
theorem dX9_type_50 : decode cX9_type 50 = .ok (.ireturn, 1) := by decide +kernel
theorem dX9_clearText_0 : decode cX9_clearText 0 = .ok (.aload_n 0, 1) := by decide +kernel
theorem dX9_clearText_1 : decode cX9_clearText 1 = .ok (.getfield 114, 3) := by decide +kernel
theorem dX9_clearText_4 : decode cX9_clearText 4 = .ok (.istore_n 1, 1) := by decide +kernel
theorem dX9_clearText_5 : decode cX9_clearText 5 = .ok (.aload_n 0, 1) := by decide +kernel
theorem dX9_clearText_6 : decode cX9_clearText 6 = .ok (.iconst 0, 1) := by decide +kernel
theorem dX9_clearText_7 : decode cX9_clearText 7 = .ok (.putfield 114, 3) := by decide +kernel
theorem dX9_clearText_10 : decode cX9_clearText 10 = .ok (.iload_n 1, 1) := by decide +kernel
theorem dX9_clearText_11 : decode cX9_clearText 11 = .ok (.ireturn, 1) := by decide +kernel
set_option maxRecDepth 20000 in
theorem ggX9_isAt_X9_in : GoodIn wsX9_isAt wsX9_in := goodIn_r _ [7] (by decide +kernel) (by decide +kernel)
set_option maxRecDepth 20000 in
theorem gX9_isAt_X9_in : GoodIn wsX9_isAt (va_wsS RX9 32 yX9_in wsX9_in) := goodIn_app (goodIn_of _ (by decide +kernel)) ggX9_isAt_X9_in
theorem dX9_isAt_0 : decode cX9_isAt 0 = .ok (.aload_n 0, 1) := by decide +kernel
theorem dX9_isAt_1 : decode cX9_isAt 1 = .ok (.getfield 117, 3) := by decide +kernel
theorem dX9_isAt_4 : decode cX9_isAt 4 = .ok (.aload_n 0, 1) := by decide +kernel
theorem dX9_isAt_5 : decode cX9_isAt 5 = .ok (.getfield 114, 3) := by decide +kernel
theorem dX9_isAt_8 : decode cX9_isAt 8 = .ok (.if_icmp .ge 24, 3) := by decide +kernel
theorem dX9_isAt_11 : decode cX9_isAt 11 = .ok (.aload_n 0, 1) := by decide +kernel
theorem dX9_isAt_12 : decode cX9_isAt 12 = .ok (.getfield 16, 3) := by decide +kernel
theorem dX9_isAt_15 : decode cX9_isAt 15 = .ok (.aload_n 0, 1) := by decide +kernel
theorem dX9_isAt_16 : decode cX9_isAt 16 = .ok (.getfield 117, 3) := by decide +kernel
theorem dX9_isAt_19 : decode cX9_isAt 19 = .ok (.iaload, 1) := by decide +kernel
theorem dX9_isAt_20 : decode cX9_isAt 20 = .ok (.iload_n 1, 1) := by decide +kernel
theorem dX9_isAt_21 : decode cX9_isAt 21 = .ok (.iload_n 2, 1) := by decide +kernel
theorem dX9_isAt_22 : decode cX9_isAt 22 = .ok (.invokestatic 32, 3) := by decide +kernel
theorem dX9_isAt_25 : decode cX9_isAt 25 = .ok (.ifCond .eq 7, 3) := by decide +kernel
theorem dX9_isAt_28 : decode cX9_isAt 28 = .ok (.iconst 1, 1) := by decide +kernel
theorem dX9_isAt_29 : decode cX9_isAt 29 = .ok (.goto 4, 3) := by decide +kernel
theorem dX9_isAt_32 : decode cX9_isAt 32 = .ok (.iconst 0, 1) := by decide +kernel
theorem dX9_isAt_33 : decode cX9_isAt 33 = .ok (.ireturn, 1) := by decide +kernel
set_option maxRecDepth 20000 in
theorem ggX9_passes_X9_isAt : GoodIn wsX9_passes wsX9_isAt := goodIn_r _ [6, 1, 7, 8, 9, 10, 5, 11, 12, 13, 14, 15, 16, 17, 18, 19, 20, 21, 22, 23, 24] (by decide +kernel) (by decide +kernel)
set_option maxRecDepth 20000 in
theorem gX9_passes_X9_isAt : GoodIn wsX9_passes (wsV RX9 120 RX9 yX9_isAt wsX9_isAt) := goodIn_app (goodIn_of _ (by decide +kernel)) ggX9_passes_X9_isAt
theorem dX9_passes_0 : decode cX9_passes 0 = .ok (.aload_n 0, 1) := by decide +kernel
theorem dX9_passes_1 : decode cX9_passes 1 = .ok (.iload_n 1, 1) := by decide +kernel
theorem dX9_passes_2 : decode cX9_passes 2 = .ok (.iload_n 2, 1) := by decide +kernel
theorem dX9_passes_3 : decode cX9_passes 3 = .ok (.invokevirtual 120, 3) := by decide +kernel
theorem dX9_passes_6 : decode cX9_passes 6 = .ok (.istore_n 3, 1) := by decide +kernel
theorem dX9_passes_7 : decode cX9_passes 7 = .ok (.aload_n 0, 1) := by decide +kernel
theorem dX9_passes_8 : decode cX9_passes 8 = .ok (.dup, 1) := by decide +kernel
theorem dX9_passes_9 : decode cX9_passes 9 = .ok (.getfield 117, 3) := by decide +kernel
theorem dX9_passes_12 : decode cX9_passes 12 = .ok (.iload_n 3, 1) := by decide +kernel
theorem dX9_passes_13 : decode cX9_passes 13 = .ok (.ifCond .eq 7, 3) := by decide +kernel
theorem dX9_passes_16 : decode cX9_passes 16 = .ok (.iconst 1, 1) := by decide +kernel
theorem dX9_passes_17 : decode cX9_passes 17 = .ok (.goto 4, 3) := by decide +kernel
theorem dX9_passes_20 : decode cX9_passes 20 = .ok (.iconst 0, 1) := by decide +kernel
theorem dX9_passes_21 : decode cX9_passes 21 = .ok (.iadd, 1) := by decide +kernel
theorem dX9_passes_22 : decode cX9_passes 22 = .ok (.putfield 117, 3) := by decide +kernel
theorem dX9_passes_25 : decode cX9_passes 25 = .ok (.iload_n 3, 1) := by decide +kernel
theorem dX9_passes_26 : decode cX9_passes 26 = .ok (.ireturn, 1) := by decide +kernel
set_option maxRecDepth 20000 in
theorem ggX9_numbered_X9_isAt : GoodIn wsX9_numbered wsX9_isAt := goodIn_r _ [8, 1, 9, 3, 10, 11, 7, 12, 13, 14, 15, 16, 17, 18, 19, 20, 21, 22, 23, 24, 25] (by decide +kernel) (by decide +kernel)
set_option maxRecDepth 20000 in
theorem gX9_numbered_X9_isAt : GoodIn wsX9_numbered (wsV RX9 120 RX9 yX9_isAt wsX9_isAt) := goodIn_app (goodIn_of _ (by decide +kernel)) ggX9_numbered_X9_isAt
theorem dX9_numbered_0 : decode cX9_numbered 0 = .ok (.aload_n 0, 1) := by decide +kernel
theorem dX9_numbered_1 : decode cX9_numbered 1 = .ok (.getfield 117, 3) := by decide +kernel
theorem dX9_numbered_4 : decode cX9_numbered 4 = .ok (.istore_n 1, 1) := by decide +kernel
theorem dX9_numbered_5 : decode cX9_numbered 5 = .ok (.aload_n 0, 1) := by decide +kernel
theorem dX9_numbered_6 : decode cX9_numbered 6 = .ok (.iconst 0, 1) := by decide +kernel
theorem dX9_numbered_7 : decode cX9_numbered 7 = .ok (.putfield 123, 3) := by decide +kernel
theorem dX9_numbered_10 : decode cX9_numbered 10 = .ok (.aload_n 0, 1) := by decide +kernel
theorem dX9_numbered_11 : decode cX9_numbered 11 = .ok (.bipush 48, 2) := by decide +kernel
theorem dX9_numbered_13 : decode cX9_numbered 13 = .ok (.bipush 57, 2) := by decide +kernel
theorem dX9_numbered_15 : decode cX9_numbered 15 = .ok (.invokevirtual 120, 3) := by decide +kernel
theorem dX9_numbered_18 : decode cX9_numbered 18 = .ok (.ifCond .eq 50, 3) := by decide +kernel
theorem dX9_numbered_21 : decode cX9_numbered 21 = .ok (.aload_n 0, 1) := by decide +kernel
theorem dX9_numbered_22 : decode cX9_numbered 22 = .ok (.getfield 117, 3) := by decide +kernel
theorem dX9_numbered_25 : decode cX9_numbered 25 = .ok (.iload_n 1, 1) := by decide +kernel
theorem dX9_numbered_26 : decode cX9_numbered 26 = .ok (.isub, 1) := by decide +kernel
theorem dX9_numbered_27 : decode cX9_numbered 27 = .ok (.iconst 2, 1) := by decide +kernel
theorem dX9_numbered_28 : decode cX9_numbered 28 = .ok (.if_icmp .ge 40, 3) := by decide +kernel
theorem dX9_numbered_31 : decode cX9_numbered 31 = .ok (.aload_n 0, 1) := by decide +kernel
theorem dX9_numbered_32 : decode cX9_numbered 32 = .ok (.bipush 10, 2) := by decide +kernel
theorem dX9_numbered_34 : decode cX9_numbered 34 = .ok (.aload_n 0, 1) := by decide +kernel
theorem dX9_numbered_35 : decode cX9_numbered 35 = .ok (.getfield 123, 3) := by decide +kernel
theorem dX9_numbered_38 : decode cX9_numbered 38 = .ok (.imul, 1) := by decide +kernel
theorem dX9_numbered_39 : decode cX9_numbered 39 = .ok (.aload_n 0, 1) := by decide +kernel
theorem dX9_numbered_40 : decode cX9_numbered 40 = .ok (.getfield 16, 3) := by decide +kernel
theorem dX9_numbered_43 : decode cX9_numbered 43 = .ok (.aload_n 0, 1) := by decide +kernel
theorem dX9_numbered_44 : decode cX9_numbered 44 = .ok (.getfield 117, 3) := by decide +kernel
theorem dX9_numbered_47 : decode cX9_numbered 47 = .ok (.iaload, 1) := by decide +kernel
theorem dX9_numbered_48 : decode cX9_numbered 48 = .ok (.iadd, 1) := by decide +kernel
theorem dX9_numbered_49 : decode cX9_numbered 49 = .ok (.bipush 48, 2) := by decide +kernel
theorem dX9_numbered_51 : decode cX9_numbered 51 = .ok (.isub, 1) := by decide +kernel
theorem dX9_numbered_52 : decode cX9_numbered 52 = .ok (.putfield 123, 3) := by decide +kernel
theorem dX9_numbered_55 : decode cX9_numbered 55 = .ok (.aload_n 0, 1) := by decide +kernel
theorem dX9_numbered_56 : decode cX9_numbered 56 = .ok (.dup, 1) := by decide +kernel
theorem dX9_numbered_57 : decode cX9_numbered 57 = .ok (.getfield 117, 3) := by decide +kernel
theorem dX9_numbered_60 : decode cX9_numbered 60 = .ok (.iconst 1, 1) := by decide +kernel
theorem dX9_numbered_61 : decode cX9_numbered 61 = .ok (.iadd, 1) := by decide +kernel
theorem dX9_numbered_62 : decode cX9_numbered 62 = .ok (.putfield 117, 3) := by decide +kernel
theorem dX9_numbered_65 : decode cX9_numbered 65 = .ok (.goto (-55), 3) := by decide +kernel
theorem dX9_numbered_68 : decode cX9_numbered 68 = .ok (.aload_n 0, 1) := by decide +kernel
theorem dX9_numbered_69 : decode cX9_numbered 69 = .ok (.getfield 117, 3) := by decide +kernel
theorem dX9_numbered_72 : decode cX9_numbered 72 = .ok (.iload_n 1, 1) := by decide +kernel
theorem dX9_numbered_73 : decode cX9_numbered 73 = .ok (.if_icmp .le 7, 3) := by decide +kernel
theorem dX9_numbered_76 : decode cX9_numbered 76 = .ok (.iconst 1, 1) := by decide +kernel
theorem dX9_numbered_77 : decode cX9_numbered 77 = .ok (.goto 4, 3) := by decide +kernel
theorem dX9_numbered_80 : decode cX9_numbered 80 = .ok (.iconst 0, 1) := by decide +kernel
theorem dX9_numbered_81 : decode cX9_numbered 81 = .ok (.ireturn, 1) := by decide +kernel
theorem dX9_tells_0 : decode cX9_tells 0 = .ok (.aload_n 0, 1) := by decide +kernel
theorem dX9_tells_1 : decode cX9_tells 1 = .ok (.getfield 25, 3) := by decide +kernel
theorem dX9_tells_4 : decode cX9_tells 4 = .ok (.iconst 3, 1) := by decide +kernel
theorem dX9_tells_5 : decode cX9_tells 5 = .ok (.aload_n 0, 1) := by decide +kernel
theorem dX9_tells_6 : decode cX9_tells 6 = .ok (.getfield 126, 3) := by decide +kernel
theorem dX9_tells_9 : decode cX9_tells 9 = .ok (.imul, 1) := by decide +kernel
theorem dX9_tells_10 : decode cX9_tells 10 = .ok (.iload_n 1, 1) := by decide +kernel
theorem dX9_tells_11 : decode cX9_tells 11 = .ok (.iastore, 1) := by decide +kernel
theorem dX9_tells_12 : decode cX9_tells 12 = .ok (.aload_n 0, 1) := by decide +kernel
theorem dX9_tells_13 : decode cX9_tells 13 = .ok (.getfield 25, 3) := by decide +kernel
theorem dX9_tells_16 : decode cX9_tells 16 = .ok (.iconst 3, 1) := by decide +kernel
theorem dX9_tells_17 : decode cX9_tells 17 = .ok (.aload_n 0, 1) := by decide +kernel
theorem dX9_tells_18 : decode cX9_tells 18 = .ok (.getfield 126, 3) := by decide +kernel
theorem dX9_tells_21 : decode cX9_tells 21 = .ok (.imul, 1) := by decide +kernel
theorem dX9_tells_22 : decode cX9_tells 22 = .ok (.iconst 1, 1) := by decide +kernel
theorem dX9_tells_23 : decode cX9_tells 23 = .ok (.iadd, 1) := by decide +kernel
theorem dX9_tells_24 : decode cX9_tells 24 = .ok (.iload_n 2, 1) := by decide +kernel
theorem dX9_tells_25 : decode cX9_tells 25 = .ok (.iastore, 1) := by decide +kernel
theorem dX9_tells_26 : decode cX9_tells 26 = .ok (.aload_n 0, 1) := by decide +kernel
theorem dX9_tells_27 : decode cX9_tells 27 = .ok (.getfield 25, 3) := by decide +kernel
theorem dX9_tells_30 : decode cX9_tells 30 = .ok (.iconst 3, 1) := by decide +kernel
theorem dX9_tells_31 : decode cX9_tells 31 = .ok (.aload_n 0, 1) := by decide +kernel
theorem dX9_tells_32 : decode cX9_tells 32 = .ok (.getfield 126, 3) := by decide +kernel
theorem dX9_tells_35 : decode cX9_tells 35 = .ok (.imul, 1) := by decide +kernel
theorem dX9_tells_36 : decode cX9_tells 36 = .ok (.iconst 2, 1) := by decide +kernel
theorem dX9_tells_37 : decode cX9_tells 37 = .ok (.iadd, 1) := by decide +kernel
theorem dX9_tells_38 : decode cX9_tells 38 = .ok (.iload_n 3, 1) := by decide +kernel
theorem dX9_tells_39 : decode cX9_tells 39 = .ok (.iastore, 1) := by decide +kernel
theorem dX9_tells_40 : decode cX9_tells 40 = .ok (.aload_n 0, 1) := by decide +kernel
theorem dX9_tells_41 : decode cX9_tells 41 = .ok (.dup, 1) := by decide +kernel
theorem dX9_tells_42 : decode cX9_tells 42 = .ok (.getfield 126, 3) := by decide +kernel
theorem dX9_tells_45 : decode cX9_tells 45 = .ok (.iconst 1, 1) := by decide +kernel
theorem dX9_tells_46 : decode cX9_tells 46 = .ok (.iadd, 1) := by decide +kernel
theorem dX9_tells_47 : decode cX9_tells 47 = .ok (.putfield 126, 3) := by decide +kernel
theorem dX9_tells_50 : decode cX9_tells 50 = .ok (.iconst 1, 1) := by decide +kernel
theorem dX9_tells_51 : decode cX9_tells 51 = .ok (.ireturn, 1) := by decide +kernel
theorem dX9_fails_0 : decode cX9_fails 0 = .ok (.aload_n 0, 1) := by decide +kernel
theorem dX9_fails_1 : decode cX9_fails 1 = .ok (.iload_n 1, 1) := by decide +kernel
theorem dX9_fails_2 : decode cX9_fails 2 = .ok (.putfield 129, 3) := by decide +kernel
theorem dX9_fails_5 : decode cX9_fails 5 = .ok (.iconst 0, 1) := by decide +kernel
theorem dX9_fails_6 : decode cX9_fails 6 = .ok (.ireturn, 1) := by decide +kernel
set_option maxRecDepth 20000 in
theorem ggX9_compares_X9_passes : GoodIn wsX9_compares wsX9_passes := goodIn_r _ [8, 2, 9, 10, 11, 7, 12, 13, 1, 14, 15, 16, 32, 33, 34, 35, 36, 37, 38, 39, 40, 41, 42, 43, 44] (by decide +kernel) (by decide +kernel)
set_option maxRecDepth 20000 in
theorem gX9_compares_X9_passes : GoodIn wsX9_compares (wsV RX9 132 RX9 yX9_passes wsX9_passes) := goodIn_app (goodIn_of _ (by decide +kernel)) ggX9_compares_X9_passes
set_option maxRecDepth 20000 in
theorem ggX9_compares_X9_tells : GoodIn wsX9_compares wsX9_tells := goodIn_r _ [20, 21, 22, 32, 33, 34, 35, 36, 37, 38, 39, 40, 41, 42, 43, 44] (by decide +kernel) (by decide +kernel)
set_option maxRecDepth 20000 in
theorem gX9_compares_X9_tells : GoodIn wsX9_compares (wsV RX9 135 RX9 yX9_tells wsX9_tells) := goodIn_app (goodIn_of _ (by decide +kernel)) ggX9_compares_X9_tells
set_option maxRecDepth 20000 in
theorem ggX9_compares_X9_numbered : GoodIn wsX9_compares wsX9_numbered := goodIn_r _ [26, 2, 3, 1, 9, 10, 11, 7, 12, 13, 14, 15, 16, 32, 33, 34, 35, 36, 37, 38, 39, 40, 41, 42, 43, 44] (by decide +kernel) (by decide +kernel)
set_option maxRecDepth 20000 in
theorem gX9_compares_X9_numbered : GoodIn wsX9_compares (wsV RX9 138 RX9 yX9_numbered wsX9_numbered) := goodIn_app (goodIn_of _ (by decide +kernel)) ggX9_compares_X9_numbered
set_option maxRecDepth 20000 in
theorem ggX9_compares_X9_fails : GoodIn wsX9_compares wsX9_fails := goodIn_r _ [30, 31, 32, 33, 34, 35, 36, 37, 38, 39, 40, 41, 42, 43, 44] (by decide +kernel) (by decide +kernel)
set_option maxRecDepth 20000 in
theorem gX9_compares_X9_fails : GoodIn wsX9_compares (wsV RX9 142 RX9 yX9_fails wsX9_fails) := goodIn_app (goodIn_of _ (by decide +kernel)) ggX9_compares_X9_fails
theorem dX9_compares_0 : decode cX9_compares 0 = .ok (.aload_n 0, 1) := by decide +kernel
theorem dX9_compares_1 : decode cX9_compares 1 = .ok (.bipush 119, 2) := by decide +kernel
theorem dX9_compares_3 : decode cX9_compares 3 = .ok (.bipush 122, 2) := by decide +kernel
theorem dX9_compares_5 : decode cX9_compares 5 = .ok (.invokevirtual 132, 3) := by decide +kernel
theorem dX9_compares_8 : decode cX9_compares 8 = .ok (.ifCond .eq 24, 3) := by decide +kernel
theorem dX9_compares_11 : decode cX9_compares 11 = .ok (.aload_n 0, 1) := by decide +kernel
theorem dX9_compares_12 : decode cX9_compares 12 = .ok (.iload_n 2, 1) := by decide +kernel
theorem dX9_compares_13 : decode cX9_compares 13 = .ok (.aload_n 0, 1) := by decide +kernel
theorem dX9_compares_14 : decode cX9_compares 14 = .ok (.getfield 16, 3) := by decide +kernel
theorem dX9_compares_17 : decode cX9_compares 17 = .ok (.aload_n 0, 1) := by decide +kernel
theorem dX9_compares_18 : decode cX9_compares 18 = .ok (.getfield 117, 3) := by decide +kernel
theorem dX9_compares_21 : decode cX9_compares 21 = .ok (.iconst 1, 1) := by decide +kernel
theorem dX9_compares_22 : decode cX9_compares 22 = .ok (.isub, 1) := by decide +kernel
theorem dX9_compares_23 : decode cX9_compares 23 = .ok (.iaload, 1) := by decide +kernel
theorem dX9_compares_24 : decode cX9_compares 24 = .ok (.bipush 119, 2) := by decide +kernel
theorem dX9_compares_26 : decode cX9_compares 26 = .ok (.isub, 1) := by decide +kernel
theorem dX9_compares_27 : decode cX9_compares 27 = .ok (.iconst 0, 1) := by decide +kernel
theorem dX9_compares_28 : decode cX9_compares 28 = .ok (.invokevirtual 135, 3) := by decide +kernel
theorem dX9_compares_31 : decode cX9_compares 31 = .ok (.ireturn, 1) := by decide +kernel
theorem dX9_compares_32 : decode cX9_compares 32 = .ok (.aload_n 0, 1) := by decide +kernel
theorem dX9_compares_33 : decode cX9_compares 33 = .ok (.invokevirtual 138, 3) := by decide +kernel
theorem dX9_compares_36 : decode cX9_compares 36 = .ok (.ifCond .eq 16, 3) := by decide +kernel
theorem dX9_compares_39 : decode cX9_compares 39 = .ok (.aload_n 0, 1) := by decide +kernel
theorem dX9_compares_40 : decode cX9_compares 40 = .ok (.iload_n 1, 1) := by decide +kernel
theorem dX9_compares_41 : decode cX9_compares 41 = .ok (.aload_n 0, 1) := by decide +kernel
theorem dX9_compares_42 : decode cX9_compares 42 = .ok (.getfield 123, 3) := by decide +kernel
theorem dX9_compares_45 : decode cX9_compares 45 = .ok (.iconst 0, 1) := by decide +kernel
theorem dX9_compares_46 : decode cX9_compares 46 = .ok (.invokevirtual 135, 3) := by decide +kernel
theorem dX9_compares_49 : decode cX9_compares 49 = .ok (.goto 8, 3) := by decide +kernel
theorem dX9_compares_52 : decode cX9_compares 52 = .ok (.aload_n 0, 1) := by decide +kernel
theorem dX9_compares_53 : decode cX9_compares 53 = .ok (.iconst 1, 1) := by decide +kernel
theorem dX9_compares_54 : decode cX9_compares 54 = .ok (.invokevirtual 142, 3) := by decide +kernel
theorem dX9_compares_57 : decode cX9_compares 57 = .ok (.ireturn, 1) := by decide +kernel
set_option maxRecDepth 20000 in
theorem ggX9_ranges_X9_passes : GoodIn wsX9_ranges wsX9_passes := goodIn_r _ [7, 2, 8, 9, 10, 6, 11, 12, 13, 14, 15, 16, 32, 33, 34, 35, 36, 37, 38, 39, 40, 41, 42, 43, 44] (by decide +kernel) (by decide +kernel)
set_option maxRecDepth 20000 in
theorem gX9_ranges_X9_passes : GoodIn wsX9_ranges (wsV RX9 132 RX9 yX9_passes wsX9_passes) := goodIn_app (goodIn_of _ (by decide +kernel)) ggX9_ranges_X9_passes
set_option maxRecDepth 20000 in
theorem ggX9_ranges_X9_tells : GoodIn wsX9_ranges wsX9_tells := goodIn_r _ [20, 21, 22, 32, 33, 34, 35, 36, 37, 38, 39, 40, 41, 42, 43, 44] (by decide +kernel) (by decide +kernel)
set_option maxRecDepth 20000 in
theorem gX9_ranges_X9_tells : GoodIn wsX9_ranges (wsV RX9 135 RX9 yX9_tells wsX9_tells) := goodIn_app (goodIn_of _ (by decide +kernel)) ggX9_ranges_X9_tells
set_option maxRecDepth 20000 in
theorem ggX9_ranges_X9_numbered : GoodIn wsX9_ranges wsX9_numbered := goodIn_r _ [26, 2, 1, 13, 8, 9, 10, 6, 11, 12, 14, 15, 16, 32, 33, 34, 35, 36, 37, 38, 39, 40, 41, 42, 43, 44] (by decide +kernel) (by decide +kernel)
set_option maxRecDepth 20000 in
theorem gX9_ranges_X9_numbered : GoodIn wsX9_ranges (wsV RX9 138 RX9 yX9_numbered wsX9_numbered) := goodIn_app (goodIn_of _ (by decide +kernel)) ggX9_ranges_X9_numbered
set_option maxRecDepth 20000 in
theorem ggX9_ranges_X9_fails : GoodIn wsX9_ranges wsX9_fails := goodIn_r _ [30, 31, 32, 33, 34, 35, 36, 37, 38, 39, 40, 41, 42, 43, 44] (by decide +kernel) (by decide +kernel)
set_option maxRecDepth 20000 in
theorem gX9_ranges_X9_fails : GoodIn wsX9_ranges (wsV RX9 142 RX9 yX9_fails wsX9_fails) := goodIn_app (goodIn_of _ (by decide +kernel)) ggX9_ranges_X9_fails
theorem dX9_ranges_0 : decode cX9_ranges 0 = .ok (.aload_n 0, 1) := by decide +kernel
theorem dX9_ranges_1 : decode cX9_ranges 1 = .ok (.getfield 123, 3) := by decide +kernel
theorem dX9_ranges_4 : decode cX9_ranges 4 = .ok (.istore_n 2, 1) := by decide +kernel
theorem dX9_ranges_5 : decode cX9_ranges 5 = .ok (.aload_n 0, 1) := by decide +kernel
theorem dX9_ranges_6 : decode cX9_ranges 6 = .ok (.bipush 45, 2) := by decide +kernel
theorem dX9_ranges_8 : decode cX9_ranges 8 = .ok (.bipush 45, 2) := by decide +kernel
theorem dX9_ranges_10 : decode cX9_ranges 10 = .ok (.invokevirtual 132, 3) := by decide +kernel
theorem dX9_ranges_13 : decode cX9_ranges 13 = .ok (.ifCond .ne 11, 3) := by decide +kernel
theorem dX9_ranges_16 : decode cX9_ranges 16 = .ok (.aload_n 0, 1) := by decide +kernel
theorem dX9_ranges_17 : decode cX9_ranges 17 = .ok (.iconst 3, 1) := by decide +kernel
theorem dX9_ranges_18 : decode cX9_ranges 18 = .ok (.iload_n 2, 1) := by decide +kernel
theorem dX9_ranges_19 : decode cX9_ranges 19 = .ok (.iconst 0, 1) := by decide +kernel
theorem dX9_ranges_20 : decode cX9_ranges 20 = .ok (.invokevirtual 135, 3) := by decide +kernel
theorem dX9_ranges_23 : decode cX9_ranges 23 = .ok (.ireturn, 1) := by decide +kernel
theorem dX9_ranges_24 : decode cX9_ranges 24 = .ok (.aload_n 0, 1) := by decide +kernel
theorem dX9_ranges_25 : decode cX9_ranges 25 = .ok (.invokevirtual 138, 3) := by decide +kernel
theorem dX9_ranges_28 : decode cX9_ranges 28 = .ok (.ifCond .ne 9, 3) := by decide +kernel
theorem dX9_ranges_31 : decode cX9_ranges 31 = .ok (.aload_n 0, 1) := by decide +kernel
theorem dX9_ranges_32 : decode cX9_ranges 32 = .ok (.iconst 1, 1) := by decide +kernel
theorem dX9_ranges_33 : decode cX9_ranges 33 = .ok (.invokevirtual 142, 3) := by decide +kernel
theorem dX9_ranges_36 : decode cX9_ranges 36 = .ok (.ireturn, 1) := by decide +kernel
theorem dX9_ranges_37 : decode cX9_ranges 37 = .ok (.aload_n 0, 1) := by decide +kernel
theorem dX9_ranges_38 : decode cX9_ranges 38 = .ok (.getfield 123, 3) := by decide +kernel
theorem dX9_ranges_41 : decode cX9_ranges 41 = .ok (.iload_n 2, 1) := by decide +kernel
theorem dX9_ranges_42 : decode cX9_ranges 42 = .ok (.if_icmp .ge 14, 3) := by decide +kernel
theorem dX9_ranges_45 : decode cX9_ranges 45 = .ok (.aload_n 0, 1) := by decide +kernel
theorem dX9_ranges_46 : decode cX9_ranges 46 = .ok (.iload_n 1, 1) := by decide +kernel
theorem dX9_ranges_47 : decode cX9_ranges 47 = .ok (.putfield 117, 3) := by decide +kernel
theorem dX9_ranges_50 : decode cX9_ranges 50 = .ok (.aload_n 0, 1) := by decide +kernel
theorem dX9_ranges_51 : decode cX9_ranges 51 = .ok (.iconst 2, 1) := by decide +kernel
theorem dX9_ranges_52 : decode cX9_ranges 52 = .ok (.invokevirtual 142, 3) := by decide +kernel
theorem dX9_ranges_55 : decode cX9_ranges 55 = .ok (.ireturn, 1) := by decide +kernel
theorem dX9_ranges_56 : decode cX9_ranges 56 = .ok (.aload_n 0, 1) := by decide +kernel
theorem dX9_ranges_57 : decode cX9_ranges 57 = .ok (.bipush 7, 2) := by decide +kernel
theorem dX9_ranges_59 : decode cX9_ranges 59 = .ok (.iload_n 2, 1) := by decide +kernel
theorem dX9_ranges_60 : decode cX9_ranges 60 = .ok (.aload_n 0, 1) := by decide +kernel
theorem dX9_ranges_61 : decode cX9_ranges 61 = .ok (.getfield 123, 3) := by decide +kernel
theorem dX9_ranges_64 : decode cX9_ranges 64 = .ok (.invokevirtual 135, 3) := by decide +kernel
theorem dX9_ranges_67 : decode cX9_ranges 67 = .ok (.ireturn, 1) := by decide +kernel
set_option maxRecDepth 20000 in
theorem ggX9_readsCell_X9_passes : GoodIn wsX9_readsCell wsX9_passes := goodIn_r _ [8, 1, 9, 10, 11, 7, 12, 13, 3, 14, 15, 16, 40, 41, 42, 43, 44, 45, 46, 47, 48, 49, 50, 51, 52] (by decide +kernel) (by decide +kernel)
set_option maxRecDepth 20000 in
theorem gX9_readsCell_X9_passes : GoodIn wsX9_readsCell (wsV RX9 132 RX9 yX9_passes wsX9_passes) := goodIn_app (goodIn_of _ (by decide +kernel)) ggX9_readsCell_X9_passes
set_option maxRecDepth 20000 in
theorem ggX9_readsCell_X9_tells : GoodIn wsX9_readsCell wsX9_tells := goodIn_r _ [20, 21, 22, 40, 41, 42, 43, 44, 45, 46, 47, 48, 49, 50, 51, 52] (by decide +kernel) (by decide +kernel)
set_option maxRecDepth 20000 in
theorem gX9_readsCell_X9_tells : GoodIn wsX9_readsCell (wsV RX9 135 RX9 yX9_tells wsX9_tells) := goodIn_app (goodIn_of _ (by decide +kernel)) ggX9_readsCell_X9_tells
set_option maxRecDepth 20000 in
theorem ggX9_readsCell_X9_numbered : GoodIn wsX9_readsCell wsX9_numbered := goodIn_r _ [26, 1, 2, 3, 9, 10, 11, 7, 12, 13, 14, 15, 16, 40, 41, 42, 43, 44, 45, 46, 47, 48, 49, 50, 51, 52] (by decide +kernel) (by decide +kernel)
set_option maxRecDepth 20000 in
theorem gX9_readsCell_X9_numbered : GoodIn wsX9_readsCell (wsV RX9 138 RX9 yX9_numbered wsX9_numbered) := goodIn_app (goodIn_of _ (by decide +kernel)) ggX9_readsCell_X9_numbered
set_option maxRecDepth 20000 in
theorem ggX9_readsCell_X9_fails : GoodIn wsX9_readsCell wsX9_fails := goodIn_r _ [30, 31, 40, 41, 42, 43, 44, 45, 46, 47, 48, 49, 50, 51, 52] (by decide +kernel) (by decide +kernel)
set_option maxRecDepth 20000 in
theorem gX9_readsCell_X9_fails : GoodIn wsX9_readsCell (wsV RX9 142 RX9 yX9_fails wsX9_fails) := goodIn_app (goodIn_of _ (by decide +kernel)) ggX9_readsCell_X9_fails
set_option maxRecDepth 20000 in
theorem ggX9_readsCell_X9_compares : GoodIn wsX9_readsCell wsX9_compares := goodIn_r _ [35, 3, 1, 2, 4, 5, 6, 7, 8, 9, 10, 11, 12, 13, 14, 15, 16, 17, 18, 19, 20, 21, 22, 23, 24, 25, 26, 27, 28, 29, 30, 31, 40, 41, 42, 43, 44, 45, 46, 47, 48, 49, 50, 51, 52] (by decide +kernel) (by decide +kernel)
set_option maxRecDepth 20000 in
theorem gX9_readsCell_X9_compares : GoodIn wsX9_readsCell (wsV RX9 145 RX9 yX9_compares wsX9_compares) := goodIn_app (goodIn_of _ (by decide +kernel)) ggX9_readsCell_X9_compares
set_option maxRecDepth 20000 in
theorem ggX9_readsCell_X9_ranges : GoodIn wsX9_readsCell wsX9_ranges := goodIn_r _ [39, 2, 1, 4, 5, 6, 7, 8, 9, 10, 11, 12, 13, 3, 14, 15, 16, 17, 18, 19, 20, 21, 22, 23, 24, 25, 26, 27, 28, 29, 30, 31, 40, 41, 42, 43, 44, 45, 46, 47, 48, 49, 50, 51, 52] (by decide +kernel) (by decide +kernel)
set_option maxRecDepth 20000 in
theorem gX9_readsCell_X9_ranges : GoodIn wsX9_readsCell (wsV RX9 148 RX9 yX9_ranges wsX9_ranges) := goodIn_app (goodIn_of _ (by decide +kernel)) ggX9_readsCell_X9_ranges
theorem dX9_readsCell_0 : decode cX9_readsCell 0 = .ok (.aload_n 0, 1) := by decide +kernel
theorem dX9_readsCell_1 : decode cX9_readsCell 1 = .ok (.getfield 117, 3) := by decide +kernel
theorem dX9_readsCell_4 : decode cX9_readsCell 4 = .ok (.istore_n 1, 1) := by decide +kernel
theorem dX9_readsCell_5 : decode cX9_readsCell 5 = .ok (.aload_n 0, 1) := by decide +kernel
theorem dX9_readsCell_6 : decode cX9_readsCell 6 = .ok (.bipush 42, 2) := by decide +kernel
theorem dX9_readsCell_8 : decode cX9_readsCell 8 = .ok (.bipush 42, 2) := by decide +kernel
theorem dX9_readsCell_10 : decode cX9_readsCell 10 = .ok (.invokevirtual 132, 3) := by decide +kernel
theorem dX9_readsCell_13 : decode cX9_readsCell 13 = .ok (.ifCond .eq 11, 3) := by decide +kernel
theorem dX9_readsCell_16 : decode cX9_readsCell 16 = .ok (.aload_n 0, 1) := by decide +kernel
theorem dX9_readsCell_17 : decode cX9_readsCell 17 = .ok (.iconst 0, 1) := by decide +kernel
theorem dX9_readsCell_18 : decode cX9_readsCell 18 = .ok (.iconst 0, 1) := by decide +kernel
theorem dX9_readsCell_19 : decode cX9_readsCell 19 = .ok (.iconst 0, 1) := by decide +kernel
theorem dX9_readsCell_20 : decode cX9_readsCell 20 = .ok (.invokevirtual 135, 3) := by decide +kernel
theorem dX9_readsCell_23 : decode cX9_readsCell 23 = .ok (.ireturn, 1) := by decide +kernel
theorem dX9_readsCell_24 : decode cX9_readsCell 24 = .ok (.aload_n 0, 1) := by decide +kernel
theorem dX9_readsCell_25 : decode cX9_readsCell 25 = .ok (.bipush 95, 2) := by decide +kernel
theorem dX9_readsCell_27 : decode cX9_readsCell 27 = .ok (.bipush 95, 2) := by decide +kernel
theorem dX9_readsCell_29 : decode cX9_readsCell 29 = .ok (.invokevirtual 132, 3) := by decide +kernel
theorem dX9_readsCell_32 : decode cX9_readsCell 32 = .ok (.ifCond .eq 11, 3) := by decide +kernel
theorem dX9_readsCell_35 : decode cX9_readsCell 35 = .ok (.aload_n 0, 1) := by decide +kernel
theorem dX9_readsCell_36 : decode cX9_readsCell 36 = .ok (.iconst 1, 1) := by decide +kernel
theorem dX9_readsCell_37 : decode cX9_readsCell 37 = .ok (.iconst 0, 1) := by decide +kernel
theorem dX9_readsCell_38 : decode cX9_readsCell 38 = .ok (.iconst 0, 1) := by decide +kernel
theorem dX9_readsCell_39 : decode cX9_readsCell 39 = .ok (.invokevirtual 135, 3) := by decide +kernel
theorem dX9_readsCell_42 : decode cX9_readsCell 42 = .ok (.ireturn, 1) := by decide +kernel
theorem dX9_readsCell_43 : decode cX9_readsCell 43 = .ok (.aload_n 0, 1) := by decide +kernel
theorem dX9_readsCell_44 : decode cX9_readsCell 44 = .ok (.bipush 33, 2) := by decide +kernel
theorem dX9_readsCell_46 : decode cX9_readsCell 46 = .ok (.bipush 33, 2) := by decide +kernel
theorem dX9_readsCell_48 : decode cX9_readsCell 48 = .ok (.invokevirtual 132, 3) := by decide +kernel
theorem dX9_readsCell_51 : decode cX9_readsCell 51 = .ok (.ifCond .eq 11, 3) := by decide +kernel
theorem dX9_readsCell_54 : decode cX9_readsCell 54 = .ok (.aload_n 0, 1) := by decide +kernel
theorem dX9_readsCell_55 : decode cX9_readsCell 55 = .ok (.iconst 2, 1) := by decide +kernel
theorem dX9_readsCell_56 : decode cX9_readsCell 56 = .ok (.iconst 0, 1) := by decide +kernel
theorem dX9_readsCell_57 : decode cX9_readsCell 57 = .ok (.iconst 0, 1) := by decide +kernel
