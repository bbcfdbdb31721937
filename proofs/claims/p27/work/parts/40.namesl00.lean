theorem dJ9_max_7cf53_0 : decode cJ9_max_7cf53 0 = .ok (.iload_n 0, 1) := by decide +kernel
theorem dJ9_max_7cf53_1 : decode cJ9_max_7cf53 1 = .ok (.iload_n 1, 1) := by decide +kernel
theorem dJ9_max_7cf53_2 : decode cJ9_max_7cf53 2 = .ok (.if_icmp .lt 7, 3) := by decide +kernel
theorem dJ9_max_7cf53_5 : decode cJ9_max_7cf53 5 = .ok (.iload_n 0, 1) := by decide +kernel
theorem dJ9_max_7cf53_6 : decode cJ9_max_7cf53 6 = .ok (.goto 4, 3) := by decide +kernel
theorem dJ9_max_7cf53_9 : decode cJ9_max_7cf53 9 = .ok (.iload_n 1, 1) := by decide +kernel
theorem dJ9_max_7cf53_10 : decode cJ9_max_7cf53 10 = .ok (.ireturn, 1) := by decide +kernel
theorem dJ9_min_7cf53_0 : decode cJ9_min_7cf53 0 = .ok (.iload_n 0, 1) := by decide +kernel
theorem dJ9_min_7cf53_1 : decode cJ9_min_7cf53 1 = .ok (.iload_n 1, 1) := by decide +kernel
theorem dJ9_min_7cf53_2 : decode cJ9_min_7cf53 2 = .ok (.if_icmp .gt 7, 3) := by decide +kernel
theorem dJ9_min_7cf53_5 : decode cJ9_min_7cf53 5 = .ok (.iload_n 0, 1) := by decide +kernel
theorem dJ9_min_7cf53_6 : decode cJ9_min_7cf53 6 = .ok (.goto 4, 3) := by decide +kernel
theorem dJ9_min_7cf53_9 : decode cJ9_min_7cf53 9 = .ok (.iload_n 1, 1) := by decide +kernel
theorem dJ9_min_7cf53_10 : decode cJ9_min_7cf53 10 = .ok (.ireturn, 1) := by decide +kernel
theorem dL_cell_0 : decode cL_cell 0 = .ok (.iload_n 1, 1) := by decide +kernel
theorem dL_cell_1 : decode cL_cell 1 = .ok (.aload_n 0, 1) := by decide +kernel
theorem dL_cell_2 : decode cL_cell 2 = .ok (.arraylength, 1) := by decide +kernel
theorem dL_cell_3 : decode cL_cell 3 = .ok (.if_icmp .ge 9, 3) := by decide +kernel
theorem dL_cell_6 : decode cL_cell 6 = .ok (.aload_n 0, 1) := by decide +kernel
theorem dL_cell_7 : decode cL_cell 7 = .ok (.iload_n 1, 1) := by decide +kernel
theorem dL_cell_8 : decode cL_cell 8 = .ok (.iaload, 1) := by decide +kernel
theorem dL_cell_9 : decode cL_cell 9 = .ok (.goto 9, 3) := by decide +kernel
theorem dL_cell_12 : decode cL_cell 12 = .ok (.ldc 7, 2) := by decide +kernel
theorem dL_cell_14 : decode cL_cell 14 = .ok (.iload_n 1, 1) := by decide +kernel
theorem dL_cell_15 : decode cL_cell 15 = .ok (.iconst 3, 1) := by decide +kernel
theorem dL_cell_16 : decode cL_cell 16 = .ok (.iadd, 1) := by decide +kernel
theorem dL_cell_17 : decode cL_cell 17 = .ok (.imul, 1) := by decide +kernel
theorem dL_cell_18 : decode cL_cell 18 = .ok (.ireturn, 1) := by decide +kernel
theorem dL_low_0 : decode cL_low 0 = .ok (.iload_n 0, 1) := by decide +kernel
theorem dL_low_1 : decode cL_low 1 = .ok (.ldc 8, 2) := by decide +kernel
theorem dL_low_3 : decode cL_low 3 = .ok (.iand, 1) := by decide +kernel
theorem dL_low_4 : decode cL_low 4 = .ok (.iload_n 1, 1) := by decide +kernel
theorem dL_low_5 : decode cL_low 5 = .ok (.irem, 1) := by decide +kernel
theorem dL_low_6 : decode cL_low 6 = .ok (.ireturn, 1) := by decide +kernel
theorem dL_get_0 : decode cL_get 0 = .ok (.aload_n 0, 1) := by decide +kernel
theorem dL_get_1 : decode cL_get 1 = .ok (.bipush 12, 2) := by decide +kernel
theorem dL_get_3 : decode cL_get 3 = .ok (.iload_n 1, 1) := by decide +kernel
theorem dL_get_4 : decode cL_get 4 = .ok (.imul, 1) := by decide +kernel
theorem dL_get_5 : decode cL_get 5 = .ok (.iload_n 2, 1) := by decide +kernel
theorem dL_get_6 : decode cL_get 6 = .ok (.iadd, 1) := by decide +kernel
theorem dL_get_7 : decode cL_get 7 = .ok (.iaload, 1) := by decide +kernel
theorem dL_get_8 : decode cL_get 8 = .ok (.bipush 7, 2) := by decide +kernel
theorem dL_get_10 : decode cL_get 10 = .ok (.iload_n 3, 1) := by decide +kernel
theorem dL_get_11 : decode cL_get 11 = .ok (.imul, 1) := by decide +kernel
theorem dL_get_12 : decode cL_get 12 = .ok (.ishr, 1) := by decide +kernel
theorem dL_get_13 : decode cL_get 13 = .ok (.bipush 127, 2) := by decide +kernel
theorem dL_get_15 : decode cL_get 15 = .ok (.iand, 1) := by decide +kernel
theorem dL_get_16 : decode cL_get 16 = .ok (.iconst 1, 1) := by decide +kernel
theorem dL_get_17 : decode cL_get 17 = .ok (.isub, 1) := by decide +kernel
theorem dL_get_18 : decode cL_get 18 = .ok (.ireturn, 1) := by decide +kernel
set_option maxRecDepth 20000 in
theorem ggL_set_L_get : GoodIn wsL_set wsL_get := goodIn_r _ [4] (by decide +kernel) (by decide +kernel)
set_option maxRecDepth 20000 in
theorem gL_set_L_get : GoodIn wsL_set (va_wsS RL 9 yL_get wsL_get) := goodIn_app (goodIn_of _ (by decide +kernel)) ggL_set_L_get
theorem dL_set_0 : decode cL_set 0 = .ok (.aload_n 0, 1) := by decide +kernel
theorem dL_set_1 : decode cL_set 1 = .ok (.bipush 12, 2) := by decide +kernel
theorem dL_set_3 : decode cL_set 3 = .ok (.iload_n 1, 1) := by decide +kernel
theorem dL_set_4 : decode cL_set 4 = .ok (.imul, 1) := by decide +kernel
theorem dL_set_5 : decode cL_set 5 = .ok (.iload_n 2, 1) := by decide +kernel
theorem dL_set_6 : decode cL_set 6 = .ok (.iadd, 1) := by decide +kernel
theorem dL_set_7 : decode cL_set 7 = .ok (.dup2, 1) := by decide +kernel
theorem dL_set_8 : decode cL_set 8 = .ok (.iaload, 1) := by decide +kernel
theorem dL_set_9 : decode cL_set 9 = .ok (.iload 4, 2) := by decide +kernel
theorem dL_set_11 : decode cL_set 11 = .ok (.aload_n 0, 1) := by decide +kernel
theorem dL_set_12 : decode cL_set 12 = .ok (.iload_n 1, 1) := by decide +kernel
theorem dL_set_13 : decode cL_set 13 = .ok (.iload_n 2, 1) := by decide +kernel
theorem dL_set_14 : decode cL_set 14 = .ok (.iload_n 3, 1) := by decide +kernel
theorem dL_set_15 : decode cL_set 15 = .ok (.invokestatic 9, 3) := by decide +kernel
theorem dL_set_18 : decode cL_set 18 = .ok (.isub, 1) := by decide +kernel
theorem dL_set_19 : decode cL_set 19 = .ok (.bipush 7, 2) := by decide +kernel
theorem dL_set_21 : decode cL_set 21 = .ok (.iload_n 3, 1) := by decide +kernel
theorem dL_set_22 : decode cL_set 22 = .ok (.imul, 1) := by decide +kernel
theorem dL_set_23 : decode cL_set 23 = .ok (.ishl, 1) := by decide +kernel
theorem dL_set_24 : decode cL_set 24 = .ok (.iadd, 1) := by decide +kernel
theorem dL_set_25 : decode cL_set 25 = .ok (.iastore, 1) := by decide +kernel
theorem dL_set_26 : decode cL_set 26 = .ok (.return_, 1) := by decide +kernel
theorem dL_asked_0 : decode cL_asked 0 = .ok (.iload_n 1, 1) := by decide +kernel
theorem dL_asked_1 : decode cL_asked 1 = .ok (.iconst 4, 1) := by decide +kernel
theorem dL_asked_2 : decode cL_asked 2 = .ok (.if_icmp .ge 18, 3) := by decide +kernel
theorem dL_asked_5 : decode cL_asked 5 = .ok (.iload_n 1, 1) := by decide +kernel
theorem dL_asked_6 : decode cL_asked 6 = .ok (.aload_n 0, 1) := by decide +kernel
theorem dL_asked_7 : decode cL_asked 7 = .ok (.iconst 0, 1) := by decide +kernel
theorem dL_asked_8 : decode cL_asked 8 = .ok (.iaload, 1) := by decide +kernel
theorem dL_asked_9 : decode cL_asked 9 = .ok (.if_icmp .ge 7, 3) := by decide +kernel
theorem dL_asked_12 : decode cL_asked 12 = .ok (.iconst 1, 1) := by decide +kernel
theorem dL_asked_13 : decode cL_asked 13 = .ok (.goto 28, 3) := by decide +kernel
theorem dL_asked_16 : decode cL_asked 16 = .ok (.iconst 0, 1) := by decide +kernel
theorem dL_asked_17 : decode cL_asked 17 = .ok (.goto 24, 3) := by decide +kernel
theorem dL_asked_20 : decode cL_asked 20 = .ok (.aload_n 0, 1) := by decide +kernel
theorem dL_asked_21 : decode cL_asked 21 = .ok (.iconst 4, 1) := by decide +kernel
theorem dL_asked_22 : decode cL_asked 22 = .ok (.iaload, 1) := by decide +kernel
theorem dL_asked_23 : decode cL_asked 23 = .ok (.iconst 1, 1) := by decide +kernel
theorem dL_asked_24 : decode cL_asked 24 = .ok (.if_icmp .ne 16, 3) := by decide +kernel
theorem dL_asked_27 : decode cL_asked 27 = .ok (.iload_n 1, 1) := by decide +kernel
theorem dL_asked_28 : decode cL_asked 28 = .ok (.iconst 4, 1) := by decide +kernel
theorem dL_asked_29 : decode cL_asked 29 = .ok (.isub, 1) := by decide +kernel
theorem dL_asked_30 : decode cL_asked 30 = .ok (.aload_n 0, 1) := by decide +kernel
theorem dL_asked_31 : decode cL_asked 31 = .ok (.iconst 1, 1) := by decide +kernel
theorem dL_asked_32 : decode cL_asked 32 = .ok (.iaload, 1) := by decide +kernel
theorem dL_asked_33 : decode cL_asked 33 = .ok (.if_icmp .ge 7, 3) := by decide +kernel
theorem dL_asked_36 : decode cL_asked 36 = .ok (.iconst 1, 1) := by decide +kernel
theorem dL_asked_37 : decode cL_asked 37 = .ok (.goto 4, 3) := by decide +kernel
theorem dL_asked_40 : decode cL_asked 40 = .ok (.iconst 0, 1) := by decide +kernel
theorem dL_asked_41 : decode cL_asked 41 = .ok (.ireturn, 1) := by decide +kernel
set_option maxRecDepth 20000 in
theorem ggL_of_L_get : GoodIn wsL_of wsL_get := goodIn_r _ [4] (by decide +kernel) (by decide +kernel)
set_option maxRecDepth 20000 in
theorem gL_of_L_get : GoodIn wsL_of (va_wsS RL 9 yL_get wsL_get) := goodIn_app (goodIn_of _ (by decide +kernel)) ggL_of_L_get
theorem dL_of_0 : decode cL_of 0 = .ok (.iload_n 3, 1) := by decide +kernel
theorem dL_of_1 : decode cL_of 1 = .ok (.iconst 4, 1) := by decide +kernel
theorem dL_of_2 : decode cL_of 2 = .ok (.if_icmp .ge 13, 3) := by decide +kernel
theorem dL_of_5 : decode cL_of 5 = .ok (.aload_n 0, 1) := by decide +kernel
theorem dL_of_6 : decode cL_of 6 = .ok (.iconst 0, 1) := by decide +kernel
theorem dL_of_7 : decode cL_of 7 = .ok (.iload_n 1, 1) := by decide +kernel
theorem dL_of_8 : decode cL_of 8 = .ok (.iload_n 3, 1) := by decide +kernel
theorem dL_of_9 : decode cL_of 9 = .ok (.invokestatic 9, 3) := by decide +kernel
theorem dL_of_12 : decode cL_of 12 = .ok (.goto 12, 3) := by decide +kernel
theorem dL_of_15 : decode cL_of 15 = .ok (.aload_n 0, 1) := by decide +kernel
theorem dL_of_16 : decode cL_of 16 = .ok (.iconst 1, 1) := by decide +kernel
theorem dL_of_17 : decode cL_of 17 = .ok (.iload_n 2, 1) := by decide +kernel
theorem dL_of_18 : decode cL_of 18 = .ok (.iload_n 3, 1) := by decide +kernel
theorem dL_of_19 : decode cL_of 19 = .ok (.iconst 4, 1) := by decide +kernel
theorem dL_of_20 : decode cL_of 20 = .ok (.isub, 1) := by decide +kernel
theorem dL_of_21 : decode cL_of 21 = .ok (.invokestatic 9, 3) := by decide +kernel
theorem dL_of_24 : decode cL_of 24 = .ok (.ireturn, 1) := by decide +kernel
theorem dL_plain_0 : decode cL_plain 0 = .ok (.iload_n 0, 1) := by decide +kernel
theorem dL_plain_1 : decode cL_plain 1 = .ok (.ifCond .eq 12, 3) := by decide +kernel
theorem dL_plain_4 : decode cL_plain 4 = .ok (.iload_n 0, 1) := by decide +kernel
theorem dL_plain_5 : decode cL_plain 5 = .ok (.iconst 1, 1) := by decide +kernel
theorem dL_plain_6 : decode cL_plain 6 = .ok (.if_icmp .ne 11, 3) := by decide +kernel
theorem dL_plain_9 : decode cL_plain 9 = .ok (.iload_n 3, 1) := by decide +kernel
theorem dL_plain_10 : decode cL_plain 10 = .ok (.ifCond .ge 7, 3) := by decide +kernel
theorem dL_plain_13 : decode cL_plain 13 = .ok (.iconst 1, 1) := by decide +kernel
theorem dL_plain_14 : decode cL_plain 14 = .ok (.goto 4, 3) := by decide +kernel
theorem dL_plain_17 : decode cL_plain 17 = .ok (.iconst 0, 1) := by decide +kernel
theorem dL_plain_18 : decode cL_plain 18 = .ok (.istore 4, 2) := by decide +kernel
theorem dL_plain_20 : decode cL_plain 20 = .ok (.iload 4, 2) := by decide +kernel
theorem dL_plain_22 : decode cL_plain 22 = .ok (.ifCond .ne 75, 3) := by decide +kernel
theorem dL_plain_25 : decode cL_plain 25 = .ok (.iload_n 3, 1) := by decide +kernel
theorem dL_plain_26 : decode cL_plain 26 = .ok (.ifCond .lt 75, 3) := by decide +kernel
theorem dL_plain_29 : decode cL_plain 29 = .ok (.iload_n 0, 1) := by decide +kernel
theorem dL_plain_30 : decode cL_plain 30 = .ok (.iconst 2, 1) := by decide +kernel
theorem dL_plain_31 : decode cL_plain 31 = .ok (.if_icmp .eq 66, 3) := by decide +kernel
theorem dL_plain_34 : decode cL_plain 34 = .ok (.iload_n 0, 1) := by decide +kernel
theorem dL_plain_35 : decode cL_plain 35 = .ok (.bipush 8, 2) := by decide +kernel
theorem dL_plain_37 : decode cL_plain 37 = .ok (.if_icmp .eq 60, 3) := by decide +kernel
theorem dL_plain_40 : decode cL_plain 40 = .ok (.iload_n 0, 1) := by decide +kernel
theorem dL_plain_41 : decode cL_plain 41 = .ok (.iconst 3, 1) := by decide +kernel
theorem dL_plain_42 : decode cL_plain 42 = .ok (.if_icmp .ne 8, 3) := by decide +kernel
theorem dL_plain_45 : decode cL_plain 45 = .ok (.iload_n 3, 1) := by decide +kernel
theorem dL_plain_46 : decode cL_plain 46 = .ok (.iload_n 1, 1) := by decide +kernel
theorem dL_plain_47 : decode cL_plain 47 = .ok (.if_icmp .eq 50, 3) := by decide +kernel
theorem dL_plain_50 : decode cL_plain 50 = .ok (.iload_n 0, 1) := by decide +kernel
theorem dL_plain_51 : decode cL_plain 51 = .ok (.iconst 4, 1) := by decide +kernel
theorem dL_plain_52 : decode cL_plain 52 = .ok (.if_icmp .ne 8, 3) := by decide +kernel
theorem dL_plain_55 : decode cL_plain 55 = .ok (.iload_n 3, 1) := by decide +kernel
theorem dL_plain_56 : decode cL_plain 56 = .ok (.iload_n 1, 1) := by decide +kernel
theorem dL_plain_57 : decode cL_plain 57 = .ok (.if_icmp .ne 40, 3) := by decide +kernel
theorem dL_plain_60 : decode cL_plain 60 = .ok (.iload_n 0, 1) := by decide +kernel
theorem dL_plain_61 : decode cL_plain 61 = .ok (.iconst 5, 1) := by decide +kernel
theorem dL_plain_62 : decode cL_plain 62 = .ok (.if_icmp .ne 8, 3) := by decide +kernel
theorem dL_plain_65 : decode cL_plain 65 = .ok (.iload_n 3, 1) := by decide +kernel
theorem dL_plain_66 : decode cL_plain 66 = .ok (.iload_n 1, 1) := by decide +kernel
theorem dL_plain_67 : decode cL_plain 67 = .ok (.if_icmp .lt 30, 3) := by decide +kernel
theorem dL_plain_70 : decode cL_plain 70 = .ok (.iload_n 0, 1) := by decide +kernel
theorem dL_plain_71 : decode cL_plain 71 = .ok (.bipush 6, 2) := by decide +kernel
theorem dL_plain_73 : decode cL_plain 73 = .ok (.if_icmp .ne 8, 3) := by decide +kernel
theorem dL_plain_76 : decode cL_plain 76 = .ok (.iload_n 3, 1) := by decide +kernel
theorem dL_plain_77 : decode cL_plain 77 = .ok (.iload_n 1, 1) := by decide +kernel
theorem dL_plain_78 : decode cL_plain 78 = .ok (.if_icmp .gt 19, 3) := by decide +kernel
theorem dL_plain_81 : decode cL_plain 81 = .ok (.iload_n 0, 1) := by decide +kernel
theorem dL_plain_82 : decode cL_plain 82 = .ok (.bipush 7, 2) := by decide +kernel
theorem dL_plain_84 : decode cL_plain 84 = .ok (.if_icmp .ne 17, 3) := by decide +kernel
theorem dL_plain_87 : decode cL_plain 87 = .ok (.iload_n 3, 1) := by decide +kernel
theorem dL_plain_88 : decode cL_plain 88 = .ok (.iload_n 1, 1) := by decide +kernel
theorem dL_plain_89 : decode cL_plain 89 = .ok (.if_icmp .lt 12, 3) := by decide +kernel
theorem dL_plain_92 : decode cL_plain 92 = .ok (.iload_n 3, 1) := by decide +kernel
theorem dL_plain_93 : decode cL_plain 93 = .ok (.iload_n 2, 1) := by decide +kernel
theorem dL_plain_94 : decode cL_plain 94 = .ok (.if_icmp .gt 7, 3) := by decide +kernel
theorem dL_plain_97 : decode cL_plain 97 = .ok (.iconst 1, 1) := by decide +kernel
theorem dL_plain_98 : decode cL_plain 98 = .ok (.goto 4, 3) := by decide +kernel
theorem dL_plain_101 : decode cL_plain 101 = .ok (.iconst 0, 1) := by decide +kernel
theorem dL_plain_102 : decode cL_plain 102 = .ok (.ireturn, 1) := by decide +kernel
set_option maxRecDepth 20000 in
theorem ggL_unfit_L_asked : GoodIn wsL_unfit wsL_asked := goodIn_r _ [4] (by decide +kernel) (by decide +kernel)
set_option maxRecDepth 20000 in
theorem gL_unfit_L_asked : GoodIn wsL_unfit (va_wsS RL 15 yL_asked wsL_asked) := goodIn_app (goodIn_of _ (by decide +kernel)) ggL_unfit_L_asked
set_option maxRecDepth 20000 in
theorem ggL_unfit_L_of : GoodIn wsL_unfit wsL_of := goodIn_r _ [7, 8, 9, 3, 10] (by decide +kernel) (by decide +kernel)
set_option maxRecDepth 20000 in
theorem gL_unfit_L_of : GoodIn wsL_unfit (va_wsS RL 19 yL_of wsL_of) := goodIn_app (goodIn_of _ (by decide +kernel)) ggL_unfit_L_of
set_option maxRecDepth 20000 in
theorem ggL_unfit_L_plain : GoodIn wsL_unfit wsL_plain := goodIn_r _ [13] (by decide +kernel) (by decide +kernel)
set_option maxRecDepth 20000 in
theorem gL_unfit_L_plain : GoodIn wsL_unfit (va_wsS RL 22 yL_plain wsL_plain) := goodIn_app (goodIn_of _ (by decide +kernel)) ggL_unfit_L_plain
theorem dL_unfit_0 : decode cL_unfit 0 = .ok (.iconst 0, 1) := by decide +kernel
theorem dL_unfit_1 : decode cL_unfit 1 = .ok (.istore 8, 2) := by decide +kernel
theorem dL_unfit_3 : decode cL_unfit 3 = .ok (.iload 8, 2) := by decide +kernel
theorem dL_unfit_5 : decode cL_unfit 5 = .ok (.iconst 4, 1) := by decide +kernel
theorem dL_unfit_6 : decode cL_unfit 6 = .ok (.if_icmp .ge 16, 3) := by decide +kernel
theorem dL_unfit_9 : decode cL_unfit 9 = .ok (.aload 7, 2) := by decide +kernel
theorem dL_unfit_11 : decode cL_unfit 11 = .ok (.iload 8, 2) := by decide +kernel
theorem dL_unfit_13 : decode cL_unfit 13 = .ok (.bipush (-14), 2) := by decide +kernel
theorem dL_unfit_15 : decode cL_unfit 15 = .ok (.iastore, 1) := by decide +kernel
theorem dL_unfit_16 : decode cL_unfit 16 = .ok (.iinc 8 1, 3) := by decide +kernel
theorem dL_unfit_19 : decode cL_unfit 19 = .ok (.goto (-16), 3) := by decide +kernel
theorem dL_unfit_22 : decode cL_unfit 22 = .ok (.bipush 7, 2) := by decide +kernel
theorem dL_unfit_24 : decode cL_unfit 24 = .ok (.istore 8, 2) := by decide +kernel
theorem dL_unfit_26 : decode cL_unfit 26 = .ok (.iload 8, 2) := by decide +kernel
theorem dL_unfit_28 : decode cL_unfit 28 = .ok (.ifCond .lt 44, 3) := by decide +kernel
theorem dL_unfit_31 : decode cL_unfit 31 = .ok (.aload_n 0, 1) := by decide +kernel
theorem dL_unfit_32 : decode cL_unfit 32 = .ok (.iload 8, 2) := by decide +kernel
theorem dL_unfit_34 : decode cL_unfit 34 = .ok (.invokestatic 15, 3) := by decide +kernel
theorem dL_unfit_37 : decode cL_unfit 37 = .ok (.ifCond .eq 29, 3) := by decide +kernel
theorem dL_unfit_40 : decode cL_unfit 40 = .ok (.aload_n 2, 1) := by decide +kernel
theorem dL_unfit_41 : decode cL_unfit 41 = .ok (.iload 8, 2) := by decide +kernel
theorem dL_unfit_43 : decode cL_unfit 43 = .ok (.iaload, 1) := by decide +kernel
theorem dL_unfit_44 : decode cL_unfit 44 = .ok (.bipush 8, 2) := by decide +kernel
theorem dL_unfit_46 : decode cL_unfit 46 = .ok (.if_icmp .ne 20, 3) := by decide +kernel
theorem dL_unfit_49 : decode cL_unfit 49 = .ok (.aload 7, 2) := by decide +kernel
theorem dL_unfit_51 : decode cL_unfit 51 = .ok (.aload_n 3, 1) := by decide +kernel
theorem dL_unfit_52 : decode cL_unfit 52 = .ok (.iload 8, 2) := by decide +kernel
theorem dL_unfit_54 : decode cL_unfit 54 = .ok (.iaload, 1) := by decide +kernel
theorem dL_unfit_55 : decode cL_unfit 55 = .ok (.aload_n 1, 1) := by decide +kernel
theorem dL_unfit_56 : decode cL_unfit 56 = .ok (.iload 5, 2) := by decide +kernel
theorem dL_unfit_58 : decode cL_unfit 58 = .ok (.iload 6, 2) := by decide +kernel
theorem dL_unfit_60 : decode cL_unfit 60 = .ok (.iload 8, 2) := by decide +kernel
theorem dL_unfit_62 : decode cL_unfit 62 = .ok (.invokestatic 19, 3) := by decide +kernel
theorem dL_unfit_65 : decode cL_unfit 65 = .ok (.iastore, 1) := by decide +kernel
theorem dL_unfit_66 : decode cL_unfit 66 = .ok (.iinc 8 (-1), 3) := by decide +kernel
theorem dL_unfit_69 : decode cL_unfit 69 = .ok (.goto (-43), 3) := by decide +kernel
theorem dL_unfit_72 : decode cL_unfit 72 = .ok (.iconst 0, 1) := by decide +kernel
theorem dL_unfit_73 : decode cL_unfit 73 = .ok (.istore 8, 2) := by decide +kernel
theorem dL_unfit_75 : decode cL_unfit 75 = .ok (.iload 8, 2) := by decide +kernel
theorem dL_unfit_77 : decode cL_unfit 77 = .ok (.bipush 8, 2) := by decide +kernel
theorem dL_unfit_79 : decode cL_unfit 79 = .ok (.if_icmp .ge 166, 3) := by decide +kernel
theorem dL_unfit_82 : decode cL_unfit 82 = .ok (.aload_n 0, 1) := by decide +kernel
theorem dL_unfit_83 : decode cL_unfit 83 = .ok (.iload 8, 2) := by decide +kernel
theorem dL_unfit_85 : decode cL_unfit 85 = .ok (.invokestatic 15, 3) := by decide +kernel
theorem dL_unfit_88 : decode cL_unfit 88 = .ok (.ifCond .eq 16, 3) := by decide +kernel
theorem dL_unfit_91 : decode cL_unfit 91 = .ok (.aload_n 1, 1) := by decide +kernel
theorem dL_unfit_92 : decode cL_unfit 92 = .ok (.iload 5, 2) := by decide +kernel
theorem dL_unfit_94 : decode cL_unfit 94 = .ok (.iload 6, 2) := by decide +kernel
theorem dL_unfit_96 : decode cL_unfit 96 = .ok (.iload 8, 2) := by decide +kernel
theorem dL_unfit_98 : decode cL_unfit 98 = .ok (.invokestatic 19, 3) := by decide +kernel
theorem dL_unfit_101 : decode cL_unfit 101 = .ok (.goto 4, 3) := by decide +kernel
theorem dL_unfit_104 : decode cL_unfit 104 = .ok (.iconst 0, 1) := by decide +kernel
theorem dL_unfit_105 : decode cL_unfit 105 = .ok (.istore 9, 2) := by decide +kernel
theorem dL_unfit_107 : decode cL_unfit 107 = .ok (.aload_n 0, 1) := by decide +kernel
theorem dL_unfit_108 : decode cL_unfit 108 = .ok (.iload 8, 2) := by decide +kernel
theorem dL_unfit_110 : decode cL_unfit 110 = .ok (.invokestatic 15, 3) := by decide +kernel
theorem dL_unfit_113 : decode cL_unfit 113 = .ok (.ifCond .eq 111, 3) := by decide +kernel
theorem dL_unfit_116 : decode cL_unfit 116 = .ok (.aload_n 2, 1) := by decide +kernel
theorem dL_unfit_117 : decode cL_unfit 117 = .ok (.iload 8, 2) := by decide +kernel
theorem dL_unfit_119 : decode cL_unfit 119 = .ok (.iaload, 1) := by decide +kernel
theorem dL_unfit_120 : decode cL_unfit 120 = .ok (.bipush 8, 2) := by decide +kernel
theorem dL_unfit_122 : decode cL_unfit 122 = .ok (.if_icmp .ge 27, 3) := by decide +kernel
theorem dL_unfit_125 : decode cL_unfit 125 = .ok (.aload_n 2, 1) := by decide +kernel
theorem dL_unfit_126 : decode cL_unfit 126 = .ok (.iload 8, 2) := by decide +kernel
theorem dL_unfit_128 : decode cL_unfit 128 = .ok (.iaload, 1) := by decide +kernel
theorem dL_unfit_129 : decode cL_unfit 129 = .ok (.aload_n 3, 1) := by decide +kernel
theorem dL_unfit_130 : decode cL_unfit 130 = .ok (.iload 8, 2) := by decide +kernel
theorem dL_unfit_132 : decode cL_unfit 132 = .ok (.iaload, 1) := by decide +kernel
theorem dL_unfit_133 : decode cL_unfit 133 = .ok (.aload 4, 2) := by decide +kernel
theorem dL_unfit_135 : decode cL_unfit 135 = .ok (.iload 8, 2) := by decide +kernel
theorem dL_unfit_137 : decode cL_unfit 137 = .ok (.iaload, 1) := by decide +kernel
theorem dL_unfit_138 : decode cL_unfit 138 = .ok (.iload 9, 2) := by decide +kernel
theorem dL_unfit_140 : decode cL_unfit 140 = .ok (.invokestatic 22, 3) := by decide +kernel
theorem dL_unfit_143 : decode cL_unfit 143 = .ok (.ifCond .eq 85, 3) := by decide +kernel
theorem dL_unfit_146 : decode cL_unfit 146 = .ok (.goto 78, 3) := by decide +kernel
theorem dL_unfit_149 : decode cL_unfit 149 = .ok (.iload 9, 2) := by decide +kernel
theorem dL_unfit_151 : decode cL_unfit 151 = .ok (.ifCond .lt 77, 3) := by decide +kernel
theorem dL_unfit_154 : decode cL_unfit 154 = .ok (.aload 7, 2) := by decide +kernel
theorem dL_unfit_156 : decode cL_unfit 156 = .ok (.aload_n 3, 1) := by decide +kernel
theorem dL_unfit_157 : decode cL_unfit 157 = .ok (.iload 8, 2) := by decide +kernel
theorem dL_unfit_159 : decode cL_unfit 159 = .ok (.iaload, 1) := by decide +kernel
theorem dL_unfit_160 : decode cL_unfit 160 = .ok (.iaload, 1) := by decide +kernel
theorem dL_unfit_161 : decode cL_unfit 161 = .ok (.ifCond .lt 67, 3) := by decide +kernel
theorem dL_unfit_164 : decode cL_unfit 164 = .ok (.aload_n 2, 1) := by decide +kernel
theorem dL_unfit_165 : decode cL_unfit 165 = .ok (.iload 8, 2) := by decide +kernel
theorem dL_unfit_167 : decode cL_unfit 167 = .ok (.iaload, 1) := by decide +kernel
theorem dL_unfit_168 : decode cL_unfit 168 = .ok (.bipush 8, 2) := by decide +kernel
theorem dL_unfit_170 : decode cL_unfit 170 = .ok (.if_icmp .ne 18, 3) := by decide +kernel
theorem dL_unfit_173 : decode cL_unfit 173 = .ok (.iload 9, 2) := by decide +kernel
theorem dL_unfit_175 : decode cL_unfit 175 = .ok (.aload 7, 2) := by decide +kernel
theorem dL_unfit_177 : decode cL_unfit 177 = .ok (.aload_n 3, 1) := by decide +kernel
theorem dL_unfit_178 : decode cL_unfit 178 = .ok (.iload 8, 2) := by decide +kernel
theorem dL_unfit_180 : decode cL_unfit 180 = .ok (.iaload, 1) := by decide +kernel
theorem dL_unfit_181 : decode cL_unfit 181 = .ok (.iaload, 1) := by decide +kernel
theorem dL_unfit_182 : decode cL_unfit 182 = .ok (.if_icmp .ne 46, 3) := by decide +kernel
theorem dL_unfit_185 : decode cL_unfit 185 = .ok (.goto 39, 3) := by decide +kernel
theorem dL_unfit_188 : decode cL_unfit 188 = .ok (.aload_n 2, 1) := by decide +kernel
theorem dL_unfit_189 : decode cL_unfit 189 = .ok (.iload 8, 2) := by decide +kernel
theorem dL_unfit_191 : decode cL_unfit 191 = .ok (.iaload, 1) := by decide +kernel
theorem dL_unfit_192 : decode cL_unfit 192 = .ok (.bipush 9, 2) := by decide +kernel
theorem dL_unfit_194 : decode cL_unfit 194 = .ok (.if_icmp .ne 18, 3) := by decide +kernel
theorem dL_unfit_197 : decode cL_unfit 197 = .ok (.iload 9, 2) := by decide +kernel
theorem dL_unfit_199 : decode cL_unfit 199 = .ok (.aload 7, 2) := by decide +kernel
theorem dL_unfit_201 : decode cL_unfit 201 = .ok (.aload_n 3, 1) := by decide +kernel
theorem dL_unfit_202 : decode cL_unfit 202 = .ok (.iload 8, 2) := by decide +kernel
theorem dL_unfit_204 : decode cL_unfit 204 = .ok (.iaload, 1) := by decide +kernel
theorem dL_unfit_205 : decode cL_unfit 205 = .ok (.iaload, 1) := by decide +kernel
theorem dL_unfit_206 : decode cL_unfit 206 = .ok (.if_icmp .ge 22, 3) := by decide +kernel
theorem dL_unfit_209 : decode cL_unfit 209 = .ok (.goto 15, 3) := by decide +kernel
theorem dL_unfit_212 : decode cL_unfit 212 = .ok (.iload 9, 2) := by decide +kernel
theorem dL_unfit_214 : decode cL_unfit 214 = .ok (.aload 7, 2) := by decide +kernel
theorem dL_unfit_216 : decode cL_unfit 216 = .ok (.aload_n 3, 1) := by decide +kernel
theorem dL_unfit_217 : decode cL_unfit 217 = .ok (.iload 8, 2) := by decide +kernel
theorem dL_unfit_219 : decode cL_unfit 219 = .ok (.iaload, 1) := by decide +kernel
theorem dL_unfit_220 : decode cL_unfit 220 = .ok (.iaload, 1) := by decide +kernel
theorem dL_unfit_221 : decode cL_unfit 221 = .ok (.if_icmp .le 7, 3) := by decide +kernel
theorem dL_unfit_224 : decode cL_unfit 224 = .ok (.iconst 1, 1) := by decide +kernel
theorem dL_unfit_225 : decode cL_unfit 225 = .ok (.goto 4, 3) := by decide +kernel
theorem dL_unfit_228 : decode cL_unfit 228 = .ok (.iconst 0, 1) := by decide +kernel
theorem dL_unfit_229 : decode cL_unfit 229 = .ok (.istore 10, 2) := by decide +kernel
theorem dL_unfit_231 : decode cL_unfit 231 = .ok (.iload 10, 2) := by decide +kernel
theorem dL_unfit_233 : decode cL_unfit 233 = .ok (.ifCond .ne 6, 3) := by decide +kernel
theorem dL_unfit_236 : decode cL_unfit 236 = .ok (.iload 8, 2) := by decide +kernel
theorem dL_unfit_238 : decode cL_unfit 238 = .ok (.ireturn, 1) := by decide +kernel
theorem dL_unfit_239 : decode cL_unfit 239 = .ok (.iinc 8 1, 3) := by decide +kernel
theorem dL_unfit_242 : decode cL_unfit 242 = .ok (.goto (-167), 3) := by decide +kernel
theorem dL_unfit_245 : decode cL_unfit 245 = .ok (.bipush (-14), 2) := by decide +kernel
theorem dL_unfit_247 : decode cL_unfit 247 = .ok (.ireturn, 1) := by decide +kernel
set_option maxRecDepth 20000 in
theorem ggL_many_L_unfit : GoodIn wsL_many wsL_unfit := goodIn_r _ [5, 6, 7, 4, 8, 9, 10, 11, 12, 13, 14, 15, 16, 17] (by decide +kernel) (by decide +kernel)
set_option maxRecDepth 20000 in
theorem gL_many_L_unfit : GoodIn wsL_many (va_wsS RL 26 yL_unfit wsL_unfit) := goodIn_app (goodIn_of _ (by decide +kernel)) ggL_many_L_unfit
theorem dL_many_0 : decode cL_many 0 = .ok (.iconst 4, 1) := by decide +kernel
theorem dL_many_1 : decode cL_many 1 = .ok (.newarray .int, 2) := by decide +kernel
theorem dL_many_3 : decode cL_many 3 = .ok (.astore 6, 2) := by decide +kernel
theorem dL_many_5 : decode cL_many 5 = .ok (.iconst 0, 1) := by decide +kernel
theorem dL_many_6 : decode cL_many 6 = .ok (.istore 7, 2) := by decide +kernel
theorem dL_many_8 : decode cL_many 8 = .ok (.aload 5, 2) := by decide +kernel
theorem dL_many_10 : decode cL_many 10 = .ok (.iconst 0, 1) := by decide +kernel
theorem dL_many_11 : decode cL_many 11 = .ok (.lconst 0, 1) := by decide +kernel
theorem dL_many_12 : decode cL_many 12 = .ok (.lastore, 1) := by decide +kernel
theorem dL_many_13 : decode cL_many 13 = .ok (.aload 5, 2) := by decide +kernel
theorem dL_many_15 : decode cL_many 15 = .ok (.iconst 1, 1) := by decide +kernel
theorem dL_many_16 : decode cL_many 16 = .ok (.lconst 0, 1) := by decide +kernel
theorem dL_many_17 : decode cL_many 17 = .ok (.lastore, 1) := by decide +kernel
theorem dL_many_18 : decode cL_many 18 = .ok (.aload 5, 2) := by decide +kernel
theorem dL_many_20 : decode cL_many 20 = .ok (.iconst 2, 1) := by decide +kernel
theorem dL_many_21 : decode cL_many 21 = .ok (.lconst 0, 1) := by decide +kernel
theorem dL_many_22 : decode cL_many 22 = .ok (.lastore, 1) := by decide +kernel
theorem dL_many_23 : decode cL_many 23 = .ok (.iconst 0, 1) := by decide +kernel
theorem dL_many_24 : decode cL_many 24 = .ok (.istore 8, 2) := by decide +kernel
theorem dL_many_26 : decode cL_many 26 = .ok (.iload 8, 2) := by decide +kernel
theorem dL_many_28 : decode cL_many 28 = .ok (.aload_n 0, 1) := by decide +kernel
theorem dL_many_29 : decode cL_many 29 = .ok (.iconst 2, 1) := by decide +kernel
theorem dL_many_30 : decode cL_many 30 = .ok (.iaload, 1) := by decide +kernel
theorem dL_many_31 : decode cL_many 31 = .ok (.aload_n 0, 1) := by decide +kernel
theorem dL_many_32 : decode cL_many 32 = .ok (.iconst 4, 1) := by decide +kernel
theorem dL_many_33 : decode cL_many 33 = .ok (.iaload, 1) := by decide +kernel
theorem dL_many_34 : decode cL_many 34 = .ok (.iconst 1, 1) := by decide +kernel
theorem dL_many_35 : decode cL_many 35 = .ok (.if_icmp .ne 9, 3) := by decide +kernel
theorem dL_many_38 : decode cL_many 38 = .ok (.aload_n 0, 1) := by decide +kernel
theorem dL_many_39 : decode cL_many 39 = .ok (.iconst 3, 1) := by decide +kernel
theorem dL_many_40 : decode cL_many 40 = .ok (.iaload, 1) := by decide +kernel
theorem dL_many_41 : decode cL_many 41 = .ok (.goto 4, 3) := by decide +kernel
theorem dL_many_44 : decode cL_many 44 = .ok (.iconst 1, 1) := by decide +kernel
theorem dL_many_45 : decode cL_many 45 = .ok (.imul, 1) := by decide +kernel
theorem dL_many_46 : decode cL_many 46 = .ok (.if_icmp .ge 99, 3) := by decide +kernel
theorem dL_many_49 : decode cL_many 49 = .ok (.aload_n 0, 1) := by decide +kernel
theorem dL_many_50 : decode cL_many 50 = .ok (.iconst 4, 1) := by decide +kernel
theorem dL_many_51 : decode cL_many 51 = .ok (.iaload, 1) := by decide +kernel
theorem dL_many_52 : decode cL_many 52 = .ok (.iconst 1, 1) := by decide +kernel
theorem dL_many_53 : decode cL_many 53 = .ok (.if_icmp .ne 12, 3) := by decide +kernel
theorem dL_many_56 : decode cL_many 56 = .ok (.iload 8, 2) := by decide +kernel
theorem dL_many_58 : decode cL_many 58 = .ok (.aload_n 0, 1) := by decide +kernel
theorem dL_many_59 : decode cL_many 59 = .ok (.iconst 3, 1) := by decide +kernel
theorem dL_many_60 : decode cL_many 60 = .ok (.iaload, 1) := by decide +kernel
theorem dL_many_61 : decode cL_many 61 = .ok (.idiv, 1) := by decide +kernel
theorem dL_many_62 : decode cL_many 62 = .ok (.goto 5, 3) := by decide +kernel
theorem dL_many_65 : decode cL_many 65 = .ok (.iload 8, 2) := by decide +kernel
theorem dL_many_67 : decode cL_many 67 = .ok (.istore 9, 2) := by decide +kernel
theorem dL_many_69 : decode cL_many 69 = .ok (.aload_n 0, 1) := by decide +kernel
theorem dL_many_70 : decode cL_many 70 = .ok (.iconst 4, 1) := by decide +kernel
theorem dL_many_71 : decode cL_many 71 = .ok (.iaload, 1) := by decide +kernel
theorem dL_many_72 : decode cL_many 72 = .ok (.iconst 1, 1) := by decide +kernel
theorem dL_many_73 : decode cL_many 73 = .ok (.if_icmp .ne 12, 3) := by decide +kernel
theorem dL_many_76 : decode cL_many 76 = .ok (.iload 8, 2) := by decide +kernel
theorem dL_many_78 : decode cL_many 78 = .ok (.aload_n 0, 1) := by decide +kernel
theorem dL_many_79 : decode cL_many 79 = .ok (.iconst 3, 1) := by decide +kernel
theorem dL_many_80 : decode cL_many 80 = .ok (.iaload, 1) := by decide +kernel
theorem dL_many_81 : decode cL_many 81 = .ok (.irem, 1) := by decide +kernel
theorem dL_many_82 : decode cL_many 82 = .ok (.goto 4, 3) := by decide +kernel
theorem dL_many_85 : decode cL_many 85 = .ok (.iconst 0, 1) := by decide +kernel
theorem dL_many_86 : decode cL_many 86 = .ok (.istore 10, 2) := by decide +kernel
theorem dL_many_88 : decode cL_many 88 = .ok (.aload_n 0, 1) := by decide +kernel
theorem dL_many_89 : decode cL_many 89 = .ok (.aload_n 1, 1) := by decide +kernel
theorem dL_many_90 : decode cL_many 90 = .ok (.aload_n 2, 1) := by decide +kernel
theorem dL_many_91 : decode cL_many 91 = .ok (.aload_n 3, 1) := by decide +kernel
theorem dL_many_92 : decode cL_many 92 = .ok (.aload 4, 2) := by decide +kernel
theorem dL_many_94 : decode cL_many 94 = .ok (.iload 9, 2) := by decide +kernel
theorem dL_many_96 : decode cL_many 96 = .ok (.iload 10, 2) := by decide +kernel
theorem dL_many_98 : decode cL_many 98 = .ok (.aload 6, 2) := by decide +kernel
theorem dL_many_100 : decode cL_many 100 = .ok (.invokestatic 26, 3) := by decide +kernel
theorem dL_many_103 : decode cL_many 103 = .ok (.bipush (-14), 2) := by decide +kernel
theorem dL_many_105 : decode cL_many 105 = .ok (.if_icmp .ne 34, 3) := by decide +kernel
theorem dL_many_108 : decode cL_many 108 = .ok (.bipush 12, 2) := by decide +kernel
theorem dL_many_110 : decode cL_many 110 = .ok (.iload 9, 2) := by decide +kernel
theorem dL_many_112 : decode cL_many 112 = .ok (.imul, 1) := by decide +kernel
theorem dL_many_113 : decode cL_many 113 = .ok (.iload 10, 2) := by decide +kernel
theorem dL_many_115 : decode cL_many 115 = .ok (.iadd, 1) := by decide +kernel
theorem dL_many_116 : decode cL_many 116 = .ok (.istore 11, 2) := by decide +kernel
theorem dL_many_118 : decode cL_many 118 = .ok (.aload 5, 2) := by decide +kernel
theorem dL_many_120 : decode cL_many 120 = .ok (.iload 11, 2) := by decide +kernel
theorem dL_many_122 : decode cL_many 122 = .ok (.bipush 48, 2) := by decide +kernel
theorem dL_many_124 : decode cL_many 124 = .ok (.idiv, 1) := by decide +kernel
theorem dL_many_125 : decode cL_many 125 = .ok (.dup2, 1) := by decide +kernel
theorem dL_many_126 : decode cL_many 126 = .ok (.laload, 1) := by decide +kernel
theorem dL_many_127 : decode cL_many 127 = .ok (.lconst 1, 1) := by decide +kernel
theorem dL_many_128 : decode cL_many 128 = .ok (.iload 11, 2) := by decide +kernel
theorem dL_many_130 : decode cL_many 130 = .ok (.bipush 48, 2) := by decide +kernel
theorem dL_many_132 : decode cL_many 132 = .ok (.irem, 1) := by decide +kernel
theorem dL_many_133 : decode cL_many 133 = .ok (.lshl, 1) := by decide +kernel
theorem dL_many_134 : decode cL_many 134 = .ok (.lor, 1) := by decide +kernel
theorem dL_many_135 : decode cL_many 135 = .ok (.lastore, 1) := by decide +kernel
theorem dL_many_136 : decode cL_many 136 = .ok (.iinc 7 1, 3) := by decide +kernel
theorem dL_many_139 : decode cL_many 139 = .ok (.iinc 8 1, 3) := by decide +kernel
