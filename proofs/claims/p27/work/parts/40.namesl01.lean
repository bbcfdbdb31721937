theorem dL_many_142 : decode cL_many 142 = .ok (.goto (-116), 3) := by decide +kernel
theorem dL_many_145 : decode cL_many 145 = .ok (.iload 7, 2) := by decide +kernel
theorem dL_many_147 : decode cL_many 147 = .ok (.ireturn, 1) := by decide +kernel
set_option maxRecDepth 20000 in
theorem ggL_ahead_L_asked : GoodIn wsL_ahead wsL_asked := goodIn_r _ [4] (by decide +kernel) (by decide +kernel)
set_option maxRecDepth 20000 in
theorem gL_ahead_L_asked : GoodIn wsL_ahead (va_wsS RL 15 yL_asked wsL_asked) := goodIn_app (goodIn_of _ (by decide +kernel)) ggL_ahead_L_asked
set_option maxRecDepth 20000 in
theorem ggL_ahead_L_of : GoodIn wsL_ahead wsL_of := goodIn_r _ [7, 8, 9, 3, 10] (by decide +kernel) (by decide +kernel)
set_option maxRecDepth 20000 in
theorem gL_ahead_L_of : GoodIn wsL_ahead (va_wsS RL 19 yL_of wsL_of) := goodIn_app (goodIn_of _ (by decide +kernel)) ggL_ahead_L_of
theorem dL_ahead_0 : decode cL_ahead 0 = .ok (.iconst 5, 1) := by decide +kernel
theorem dL_ahead_1 : decode cL_ahead 1 = .ok (.istore 4, 2) := by decide +kernel
theorem dL_ahead_3 : decode cL_ahead 3 = .ok (.iload 4, 2) := by decide +kernel
theorem dL_ahead_5 : decode cL_ahead 5 = .ok (.bipush 9, 2) := by decide +kernel
theorem dL_ahead_7 : decode cL_ahead 7 = .ok (.if_icmp .ge 101, 3) := by decide +kernel
theorem dL_ahead_10 : decode cL_ahead 10 = .ok (.aload_n 0, 1) := by decide +kernel
theorem dL_ahead_11 : decode cL_ahead 11 = .ok (.iload 4, 2) := by decide +kernel
theorem dL_ahead_13 : decode cL_ahead 13 = .ok (.iaload, 1) := by decide +kernel
theorem dL_ahead_14 : decode cL_ahead 14 = .ok (.ifCond .lt 88, 3) := by decide +kernel
theorem dL_ahead_17 : decode cL_ahead 17 = .ok (.aload_n 0, 1) := by decide +kernel
theorem dL_ahead_18 : decode cL_ahead 18 = .ok (.aload_n 0, 1) := by decide +kernel
theorem dL_ahead_19 : decode cL_ahead 19 = .ok (.iload 4, 2) := by decide +kernel
theorem dL_ahead_21 : decode cL_ahead 21 = .ok (.iaload, 1) := by decide +kernel
theorem dL_ahead_22 : decode cL_ahead 22 = .ok (.invokestatic 15, 3) := by decide +kernel
theorem dL_ahead_25 : decode cL_ahead 25 = .ok (.ifCond .eq 77, 3) := by decide +kernel
theorem dL_ahead_28 : decode cL_ahead 28 = .ok (.aload_n 1, 1) := by decide +kernel
theorem dL_ahead_29 : decode cL_ahead 29 = .ok (.iload_n 2, 1) := by decide +kernel
theorem dL_ahead_30 : decode cL_ahead 30 = .ok (.bipush 12, 2) := by decide +kernel
theorem dL_ahead_32 : decode cL_ahead 32 = .ok (.idiv, 1) := by decide +kernel
theorem dL_ahead_33 : decode cL_ahead 33 = .ok (.iload_n 2, 1) := by decide +kernel
theorem dL_ahead_34 : decode cL_ahead 34 = .ok (.bipush 12, 2) := by decide +kernel
theorem dL_ahead_36 : decode cL_ahead 36 = .ok (.irem, 1) := by decide +kernel
theorem dL_ahead_37 : decode cL_ahead 37 = .ok (.aload_n 0, 1) := by decide +kernel
theorem dL_ahead_38 : decode cL_ahead 38 = .ok (.iload 4, 2) := by decide +kernel
theorem dL_ahead_40 : decode cL_ahead 40 = .ok (.iaload, 1) := by decide +kernel
theorem dL_ahead_41 : decode cL_ahead 41 = .ok (.invokestatic 19, 3) := by decide +kernel
theorem dL_ahead_44 : decode cL_ahead 44 = .ok (.aload_n 1, 1) := by decide +kernel
theorem dL_ahead_45 : decode cL_ahead 45 = .ok (.iload_n 3, 1) := by decide +kernel
theorem dL_ahead_46 : decode cL_ahead 46 = .ok (.bipush 12, 2) := by decide +kernel
theorem dL_ahead_48 : decode cL_ahead 48 = .ok (.idiv, 1) := by decide +kernel
theorem dL_ahead_49 : decode cL_ahead 49 = .ok (.iload_n 3, 1) := by decide +kernel
theorem dL_ahead_50 : decode cL_ahead 50 = .ok (.bipush 12, 2) := by decide +kernel
theorem dL_ahead_52 : decode cL_ahead 52 = .ok (.irem, 1) := by decide +kernel
theorem dL_ahead_53 : decode cL_ahead 53 = .ok (.aload_n 0, 1) := by decide +kernel
theorem dL_ahead_54 : decode cL_ahead 54 = .ok (.iload 4, 2) := by decide +kernel
theorem dL_ahead_56 : decode cL_ahead 56 = .ok (.iaload, 1) := by decide +kernel
theorem dL_ahead_57 : decode cL_ahead 57 = .ok (.invokestatic 19, 3) := by decide +kernel
theorem dL_ahead_60 : decode cL_ahead 60 = .ok (.isub, 1) := by decide +kernel
theorem dL_ahead_61 : decode cL_ahead 61 = .ok (.istore 5, 2) := by decide +kernel
theorem dL_ahead_63 : decode cL_ahead 63 = .ok (.iload 5, 2) := by decide +kernel
theorem dL_ahead_65 : decode cL_ahead 65 = .ok (.ifCond .eq 37, 3) := by decide +kernel
theorem dL_ahead_68 : decode cL_ahead 68 = .ok (.aload_n 0, 1) := by decide +kernel
theorem dL_ahead_69 : decode cL_ahead 69 = .ok (.iload 4, 2) := by decide +kernel
theorem dL_ahead_71 : decode cL_ahead 71 = .ok (.iconst 1, 1) := by decide +kernel
theorem dL_ahead_72 : decode cL_ahead 72 = .ok (.iadd, 1) := by decide +kernel
theorem dL_ahead_73 : decode cL_ahead 73 = .ok (.iaload, 1) := by decide +kernel
theorem dL_ahead_74 : decode cL_ahead 74 = .ok (.iconst 1, 1) := by decide +kernel
theorem dL_ahead_75 : decode cL_ahead 75 = .ok (.if_icmp .ne 16, 3) := by decide +kernel
theorem dL_ahead_78 : decode cL_ahead 78 = .ok (.iload 5, 2) := by decide +kernel
theorem dL_ahead_80 : decode cL_ahead 80 = .ok (.ifCond .le 7, 3) := by decide +kernel
theorem dL_ahead_83 : decode cL_ahead 83 = .ok (.iconst 1, 1) := by decide +kernel
theorem dL_ahead_84 : decode cL_ahead 84 = .ok (.goto 17, 3) := by decide +kernel
theorem dL_ahead_87 : decode cL_ahead 87 = .ok (.iconst 0, 1) := by decide +kernel
theorem dL_ahead_88 : decode cL_ahead 88 = .ok (.goto 13, 3) := by decide +kernel
theorem dL_ahead_91 : decode cL_ahead 91 = .ok (.iload 5, 2) := by decide +kernel
theorem dL_ahead_93 : decode cL_ahead 93 = .ok (.ifCond .ge 7, 3) := by decide +kernel
theorem dL_ahead_96 : decode cL_ahead 96 = .ok (.iconst 1, 1) := by decide +kernel
theorem dL_ahead_97 : decode cL_ahead 97 = .ok (.goto 4, 3) := by decide +kernel
theorem dL_ahead_100 : decode cL_ahead 100 = .ok (.iconst 0, 1) := by decide +kernel
theorem dL_ahead_101 : decode cL_ahead 101 = .ok (.ireturn, 1) := by decide +kernel
theorem dL_ahead_102 : decode cL_ahead 102 = .ok (.iinc 4 2, 3) := by decide +kernel
theorem dL_ahead_105 : decode cL_ahead 105 = .ok (.goto (-102), 3) := by decide +kernel
theorem dL_ahead_108 : decode cL_ahead 108 = .ok (.iload_n 2, 1) := by decide +kernel
theorem dL_ahead_109 : decode cL_ahead 109 = .ok (.iload_n 3, 1) := by decide +kernel
theorem dL_ahead_110 : decode cL_ahead 110 = .ok (.if_icmp .ge 7, 3) := by decide +kernel
theorem dL_ahead_113 : decode cL_ahead 113 = .ok (.iconst 1, 1) := by decide +kernel
theorem dL_ahead_114 : decode cL_ahead 114 = .ok (.goto 4, 3) := by decide +kernel
theorem dL_ahead_117 : decode cL_ahead 117 = .ok (.iconst 0, 1) := by decide +kernel
theorem dL_ahead_118 : decode cL_ahead 118 = .ok (.ireturn, 1) := by decide +kernel
set_option maxRecDepth 20000 in
theorem ggL_alike_L_asked : GoodIn wsL_alike wsL_asked := goodIn_r _ [4] (by decide +kernel) (by decide +kernel)
set_option maxRecDepth 20000 in
theorem gL_alike_L_asked : GoodIn wsL_alike (va_wsS RL 15 yL_asked wsL_asked) := goodIn_app (goodIn_of _ (by decide +kernel)) ggL_alike_L_asked
set_option maxRecDepth 20000 in
theorem ggL_alike_L_of : GoodIn wsL_alike wsL_of := goodIn_r _ [7, 8, 9, 3, 10] (by decide +kernel) (by decide +kernel)
set_option maxRecDepth 20000 in
theorem gL_alike_L_of : GoodIn wsL_alike (va_wsS RL 19 yL_of wsL_of) := goodIn_app (goodIn_of _ (by decide +kernel)) ggL_alike_L_of
theorem dL_alike_0 : decode cL_alike 0 = .ok (.iconst 0, 1) := by decide +kernel
theorem dL_alike_1 : decode cL_alike 1 = .ok (.istore 4, 2) := by decide +kernel
theorem dL_alike_3 : decode cL_alike 3 = .ok (.iload 4, 2) := by decide +kernel
theorem dL_alike_5 : decode cL_alike 5 = .ok (.bipush 8, 2) := by decide +kernel
theorem dL_alike_7 : decode cL_alike 7 = .ok (.if_icmp .ge 64, 3) := by decide +kernel
theorem dL_alike_10 : decode cL_alike 10 = .ok (.aload_n 0, 1) := by decide +kernel
theorem dL_alike_11 : decode cL_alike 11 = .ok (.bipush 9, 2) := by decide +kernel
theorem dL_alike_13 : decode cL_alike 13 = .ok (.iaload, 1) := by decide +kernel
theorem dL_alike_14 : decode cL_alike 14 = .ok (.iload 4, 2) := by decide +kernel
theorem dL_alike_16 : decode cL_alike 16 = .ok (.ishr, 1) := by decide +kernel
theorem dL_alike_17 : decode cL_alike 17 = .ok (.iconst 1, 1) := by decide +kernel
theorem dL_alike_18 : decode cL_alike 18 = .ok (.iand, 1) := by decide +kernel
theorem dL_alike_19 : decode cL_alike 19 = .ok (.iconst 1, 1) := by decide +kernel
theorem dL_alike_20 : decode cL_alike 20 = .ok (.if_icmp .ne 45, 3) := by decide +kernel
theorem dL_alike_23 : decode cL_alike 23 = .ok (.aload_n 0, 1) := by decide +kernel
theorem dL_alike_24 : decode cL_alike 24 = .ok (.iload 4, 2) := by decide +kernel
theorem dL_alike_26 : decode cL_alike 26 = .ok (.invokestatic 15, 3) := by decide +kernel
theorem dL_alike_29 : decode cL_alike 29 = .ok (.ifCond .eq 36, 3) := by decide +kernel
theorem dL_alike_32 : decode cL_alike 32 = .ok (.aload_n 1, 1) := by decide +kernel
theorem dL_alike_33 : decode cL_alike 33 = .ok (.iload_n 2, 1) := by decide +kernel
theorem dL_alike_34 : decode cL_alike 34 = .ok (.bipush 12, 2) := by decide +kernel
theorem dL_alike_36 : decode cL_alike 36 = .ok (.idiv, 1) := by decide +kernel
theorem dL_alike_37 : decode cL_alike 37 = .ok (.iload_n 2, 1) := by decide +kernel
theorem dL_alike_38 : decode cL_alike 38 = .ok (.bipush 12, 2) := by decide +kernel
theorem dL_alike_40 : decode cL_alike 40 = .ok (.irem, 1) := by decide +kernel
theorem dL_alike_41 : decode cL_alike 41 = .ok (.iload 4, 2) := by decide +kernel
theorem dL_alike_43 : decode cL_alike 43 = .ok (.invokestatic 19, 3) := by decide +kernel
theorem dL_alike_46 : decode cL_alike 46 = .ok (.aload_n 1, 1) := by decide +kernel
theorem dL_alike_47 : decode cL_alike 47 = .ok (.iload_n 3, 1) := by decide +kernel
theorem dL_alike_48 : decode cL_alike 48 = .ok (.bipush 12, 2) := by decide +kernel
theorem dL_alike_50 : decode cL_alike 50 = .ok (.idiv, 1) := by decide +kernel
theorem dL_alike_51 : decode cL_alike 51 = .ok (.iload_n 3, 1) := by decide +kernel
theorem dL_alike_52 : decode cL_alike 52 = .ok (.bipush 12, 2) := by decide +kernel
theorem dL_alike_54 : decode cL_alike 54 = .ok (.irem, 1) := by decide +kernel
theorem dL_alike_55 : decode cL_alike 55 = .ok (.iload 4, 2) := by decide +kernel
theorem dL_alike_57 : decode cL_alike 57 = .ok (.invokestatic 19, 3) := by decide +kernel
theorem dL_alike_60 : decode cL_alike 60 = .ok (.if_icmp .eq 5, 3) := by decide +kernel
theorem dL_alike_63 : decode cL_alike 63 = .ok (.iconst 0, 1) := by decide +kernel
theorem dL_alike_64 : decode cL_alike 64 = .ok (.ireturn, 1) := by decide +kernel
theorem dL_alike_65 : decode cL_alike 65 = .ok (.iinc 4 1, 3) := by decide +kernel
theorem dL_alike_68 : decode cL_alike 68 = .ok (.goto (-65), 3) := by decide +kernel
theorem dL_alike_71 : decode cL_alike 71 = .ok (.iconst 1, 1) := by decide +kernel
theorem dL_alike_72 : decode cL_alike 72 = .ok (.ireturn, 1) := by decide +kernel
set_option maxRecDepth 20000 in
theorem ggL_unlike_L_alike : GoodIn wsL_unlike wsL_alike := goodIn_r _ [4, 5, 6, 3, 7, 8, 9, 10, 11, 12, 13] (by decide +kernel) (by decide +kernel)
set_option maxRecDepth 20000 in
theorem gL_unlike_L_alike : GoodIn wsL_unlike (va_wsS RL 30 yL_alike wsL_alike) := goodIn_app (goodIn_of _ (by decide +kernel)) ggL_unlike_L_alike
theorem dL_unlike_0 : decode cL_unlike 0 = .ok (.iconst 0, 1) := by decide +kernel
theorem dL_unlike_1 : decode cL_unlike 1 = .ok (.istore_n 3, 1) := by decide +kernel
theorem dL_unlike_2 : decode cL_unlike 2 = .ok (.iconst 0, 1) := by decide +kernel
theorem dL_unlike_3 : decode cL_unlike 3 = .ok (.istore 4, 2) := by decide +kernel
theorem dL_unlike_5 : decode cL_unlike 5 = .ok (.iload 4, 2) := by decide +kernel
theorem dL_unlike_7 : decode cL_unlike 7 = .ok (.sipush 144, 3) := by decide +kernel
theorem dL_unlike_10 : decode cL_unlike 10 = .ok (.if_icmp .ge 109, 3) := by decide +kernel
theorem dL_unlike_13 : decode cL_unlike 13 = .ok (.aload_n 2, 1) := by decide +kernel
theorem dL_unlike_14 : decode cL_unlike 14 = .ok (.iload 4, 2) := by decide +kernel
theorem dL_unlike_16 : decode cL_unlike 16 = .ok (.bipush 48, 2) := by decide +kernel
theorem dL_unlike_18 : decode cL_unlike 18 = .ok (.idiv, 1) := by decide +kernel
theorem dL_unlike_19 : decode cL_unlike 19 = .ok (.laload, 1) := by decide +kernel
theorem dL_unlike_20 : decode cL_unlike 20 = .ok (.iload 4, 2) := by decide +kernel
theorem dL_unlike_22 : decode cL_unlike 22 = .ok (.bipush 48, 2) := by decide +kernel
theorem dL_unlike_24 : decode cL_unlike 24 = .ok (.irem, 1) := by decide +kernel
theorem dL_unlike_25 : decode cL_unlike 25 = .ok (.lshr, 1) := by decide +kernel
theorem dL_unlike_26 : decode cL_unlike 26 = .ok (.lconst 1, 1) := by decide +kernel
theorem dL_unlike_27 : decode cL_unlike 27 = .ok (.land, 1) := by decide +kernel
theorem dL_unlike_28 : decode cL_unlike 28 = .ok (.lconst 1, 1) := by decide +kernel
theorem dL_unlike_29 : decode cL_unlike 29 = .ok (.lcmp, 1) := by decide +kernel
theorem dL_unlike_30 : decode cL_unlike 30 = .ok (.ifCond .ne 7, 3) := by decide +kernel
theorem dL_unlike_33 : decode cL_unlike 33 = .ok (.iconst 1, 1) := by decide +kernel
theorem dL_unlike_34 : decode cL_unlike 34 = .ok (.goto 4, 3) := by decide +kernel
theorem dL_unlike_37 : decode cL_unlike 37 = .ok (.iconst 0, 1) := by decide +kernel
theorem dL_unlike_38 : decode cL_unlike 38 = .ok (.istore 5, 2) := by decide +kernel
theorem dL_unlike_40 : decode cL_unlike 40 = .ok (.iconst 0, 1) := by decide +kernel
theorem dL_unlike_41 : decode cL_unlike 41 = .ok (.istore 6, 2) := by decide +kernel
theorem dL_unlike_43 : decode cL_unlike 43 = .ok (.iload 6, 2) := by decide +kernel
theorem dL_unlike_45 : decode cL_unlike 45 = .ok (.iload 4, 2) := by decide +kernel
theorem dL_unlike_47 : decode cL_unlike 47 = .ok (.if_icmp .ge 53, 3) := by decide +kernel
theorem dL_unlike_50 : decode cL_unlike 50 = .ok (.iload 5, 2) := by decide +kernel
theorem dL_unlike_52 : decode cL_unlike 52 = .ok (.ifCond .eq 48, 3) := by decide +kernel
theorem dL_unlike_55 : decode cL_unlike 55 = .ok (.aload_n 2, 1) := by decide +kernel
theorem dL_unlike_56 : decode cL_unlike 56 = .ok (.iload 6, 2) := by decide +kernel
theorem dL_unlike_58 : decode cL_unlike 58 = .ok (.bipush 48, 2) := by decide +kernel
theorem dL_unlike_60 : decode cL_unlike 60 = .ok (.idiv, 1) := by decide +kernel
theorem dL_unlike_61 : decode cL_unlike 61 = .ok (.laload, 1) := by decide +kernel
theorem dL_unlike_62 : decode cL_unlike 62 = .ok (.iload 6, 2) := by decide +kernel
theorem dL_unlike_64 : decode cL_unlike 64 = .ok (.bipush 48, 2) := by decide +kernel
theorem dL_unlike_66 : decode cL_unlike 66 = .ok (.irem, 1) := by decide +kernel
theorem dL_unlike_67 : decode cL_unlike 67 = .ok (.lshr, 1) := by decide +kernel
theorem dL_unlike_68 : decode cL_unlike 68 = .ok (.lconst 1, 1) := by decide +kernel
theorem dL_unlike_69 : decode cL_unlike 69 = .ok (.land, 1) := by decide +kernel
theorem dL_unlike_70 : decode cL_unlike 70 = .ok (.lconst 0, 1) := by decide +kernel
theorem dL_unlike_71 : decode cL_unlike 71 = .ok (.lcmp, 1) := by decide +kernel
theorem dL_unlike_72 : decode cL_unlike 72 = .ok (.ifCond .eq 15, 3) := by decide +kernel
theorem dL_unlike_75 : decode cL_unlike 75 = .ok (.aload_n 0, 1) := by decide +kernel
theorem dL_unlike_76 : decode cL_unlike 76 = .ok (.aload_n 1, 1) := by decide +kernel
theorem dL_unlike_77 : decode cL_unlike 77 = .ok (.iload 4, 2) := by decide +kernel
theorem dL_unlike_79 : decode cL_unlike 79 = .ok (.iload 6, 2) := by decide +kernel
theorem dL_unlike_81 : decode cL_unlike 81 = .ok (.invokestatic 30, 3) := by decide +kernel
theorem dL_unlike_84 : decode cL_unlike 84 = .ok (.ifCond .ne 7, 3) := by decide +kernel
theorem dL_unlike_87 : decode cL_unlike 87 = .ok (.iconst 1, 1) := by decide +kernel
theorem dL_unlike_88 : decode cL_unlike 88 = .ok (.goto 4, 3) := by decide +kernel
theorem dL_unlike_91 : decode cL_unlike 91 = .ok (.iconst 0, 1) := by decide +kernel
theorem dL_unlike_92 : decode cL_unlike 92 = .ok (.istore 5, 2) := by decide +kernel
theorem dL_unlike_94 : decode cL_unlike 94 = .ok (.iinc 6 1, 3) := by decide +kernel
theorem dL_unlike_97 : decode cL_unlike 97 = .ok (.goto (-54), 3) := by decide +kernel
theorem dL_unlike_100 : decode cL_unlike 100 = .ok (.iload_n 3, 1) := by decide +kernel
theorem dL_unlike_101 : decode cL_unlike 101 = .ok (.iload 5, 2) := by decide +kernel
theorem dL_unlike_103 : decode cL_unlike 103 = .ok (.ifCond .eq 7, 3) := by decide +kernel
theorem dL_unlike_106 : decode cL_unlike 106 = .ok (.iconst 1, 1) := by decide +kernel
theorem dL_unlike_107 : decode cL_unlike 107 = .ok (.goto 4, 3) := by decide +kernel
theorem dL_unlike_110 : decode cL_unlike 110 = .ok (.iconst 0, 1) := by decide +kernel
theorem dL_unlike_111 : decode cL_unlike 111 = .ok (.iadd, 1) := by decide +kernel
theorem dL_unlike_112 : decode cL_unlike 112 = .ok (.istore_n 3, 1) := by decide +kernel
theorem dL_unlike_113 : decode cL_unlike 113 = .ok (.iinc 4 1, 3) := by decide +kernel
theorem dL_unlike_116 : decode cL_unlike 116 = .ok (.goto (-111), 3) := by decide +kernel
theorem dL_unlike_119 : decode cL_unlike 119 = .ok (.iload_n 3, 1) := by decide +kernel
theorem dL_unlike_120 : decode cL_unlike 120 = .ok (.ireturn, 1) := by decide +kernel
set_option maxRecDepth 20000 in
theorem ggL_reads_X8_clearText : GoodIn wsL_reads wsX8_clearText := goodIn_r _ [6, 7, 8, 9, 10, 11, 12, 13, 289, 290, 291, 292, 293, 294, 295] (by decide +kernel) (by decide +kernel)
set_option maxRecDepth 20000 in
theorem gL_reads_X8_clearText : GoodIn wsL_reads (wsV RL 34 RX8 yX8_clearText wsX8_clearText) := goodIn_app (goodIn_of _ (by decide +kernel)) ggL_reads_X8_clearText
set_option maxRecDepth 20000 in
theorem ggL_reads_X8_type : GoodIn wsL_reads wsX8_type := goodIn_r _ [17, 7, 18, 19, 20, 11, 21, 13, 22, 23, 24, 25, 26, 27, 28, 29, 30, 31, 32, 289, 290, 291, 292, 293, 294, 295, 296] (by decide +kernel) (by decide +kernel)
set_option maxRecDepth 20000 in
theorem gL_reads_X8_type : GoodIn wsL_reads (wsV RL 40 RX8 yX8_type wsX8_type) := goodIn_app (goodIn_of _ (by decide +kernel)) ggL_reads_X8_type
set_option maxRecDepth 20000 in
theorem ggL_reads_X8_fault : GoodIn wsL_reads wsX8_fault := goodIn_r _ [36, 37, 38, 39, 5, 40, 41, 42, 43, 44, 45, 46, 47, 48, 49, 50, 51, 52, 53, 54, 55, 56, 57, 58, 59, 60, 61, 62, 30, 63, 32, 64, 65, 66, 11, 67, 13, 26, 68, 69, 70, 71, 72, 73, 74, 75, 76, 77, 78, 79, 80, 81, 82, 83, 84, 85, 86, 87, 88, 89, 90, 91, 92, 93, 94, 95, 28, 29, 31, 96, 97, 98, 99, 100, 101, 102, 103, 104, 105, 106, 107, 108, 109, 110, 111, 19, 20, 21, 112, 113, 114, 115, 116, 117, 118, 119, 120, 289, 290, 291, 292, 293, 297, 298, 299, 300, 301, 302, 303, 304, 305, 296, 294, 295] (by decide +kernel) (by decide +kernel)
set_option maxRecDepth 20000 in
theorem gL_reads_X8_fault : GoodIn wsL_reads (wsV RL 44 RX8 yX8_fault wsX8_fault) := goodIn_app (goodIn_of _ (by decide +kernel)) ggL_reads_X8_fault
set_option maxRecDepth 20000 in
theorem ggL_reads_X8_read_1 : GoodIn wsL_reads ((Cond.code yX8_read cX8_read 2 (some .int)) :: wsX8_read_r1) := goodIn_r _ [124, 37, 125, 126, 127, 38, 39, 5, 40, 41, 42, 43, 44, 45, 46, 47, 48, 49, 50, 51, 52, 53, 54, 55, 56] (by decide +kernel) (by decide +kernel)
set_option maxRecDepth 20000 in
theorem ggL_reads_X8_read_2 : GoodIn wsL_reads wsX8_read_r2 := goodIn_r _ [57, 58, 59, 60, 61, 62, 30, 63, 32, 64, 65, 66, 11, 67, 13, 26, 68, 69, 70, 71, 72, 73, 74, 75] (by decide +kernel) (by decide +kernel)
set_option maxRecDepth 20000 in
theorem ggL_reads_X8_read_3 : GoodIn wsL_reads wsX8_read_r3 := goodIn_r _ [76, 77, 78, 79, 80, 81, 82, 83, 84, 85, 86, 87, 88, 89, 90, 91, 92, 93, 94, 95, 28, 29, 31, 96] (by decide +kernel) (by decide +kernel)
set_option maxRecDepth 20000 in
theorem ggL_reads_X8_read_4 : GoodIn wsL_reads wsX8_read_r4 := goodIn_r _ [97, 98, 99, 100, 101, 102, 103, 104, 105, 106, 107, 108, 109, 110, 111, 19, 20, 21, 112, 128, 129, 130, 131, 132] (by decide +kernel) (by decide +kernel)
set_option maxRecDepth 20000 in
theorem ggL_reads_X8_read_5 : GoodIn wsL_reads wsX8_read_r5 := goodIn_r _ [133, 134, 135, 136, 137, 138, 139, 140, 141, 142, 143, 144, 145, 146, 147, 148, 149, 150, 151, 152, 153, 154, 155, 156] (by decide +kernel) (by decide +kernel)
set_option maxRecDepth 20000 in
theorem ggL_reads_X8_read_6 : GoodIn wsL_reads wsX8_read_r6 := goodIn_r _ [157, 158, 159, 160, 161, 162, 163, 164, 165, 166, 167, 168, 169, 170, 171, 172, 173, 174, 175, 176, 177, 178, 179, 180] (by decide +kernel) (by decide +kernel)
set_option maxRecDepth 20000 in
theorem ggL_reads_X8_read_7 : GoodIn wsL_reads wsX8_read_r7 := goodIn_r _ [181, 182, 183, 184, 185, 186, 187, 188, 189, 190, 191, 192, 193, 194, 195, 196, 197, 198, 199, 200, 201, 202, 203, 204] (by decide +kernel) (by decide +kernel)
set_option maxRecDepth 20000 in
theorem ggL_reads_X8_read_8 : GoodIn wsL_reads wsX8_read_r8 := goodIn_r _ [205, 206, 207, 208, 209, 210, 211, 212, 213, 214, 215, 216, 217, 218, 219, 220, 221, 222, 223, 224, 225, 226, 227, 228] (by decide +kernel) (by decide +kernel)
set_option maxRecDepth 20000 in
theorem ggL_reads_X8_read_9 : GoodIn wsL_reads wsX8_read_r9 := goodIn_r _ [229, 230, 231, 232, 233, 234, 235, 236, 237, 238, 239, 240, 241, 242, 243, 244, 245, 246, 247, 248, 249, 250, 251, 252] (by decide +kernel) (by decide +kernel)
set_option maxRecDepth 20000 in
theorem ggL_reads_X8_read_10 : GoodIn wsL_reads wsX8_read_r10 := goodIn_r _ [253, 254, 255, 256, 257, 258, 259, 260, 261, 262, 263, 264, 265, 266, 267, 268] (by decide +kernel) (by decide +kernel)
set_option maxRecDepth 20000 in
theorem ggL_reads_X8_read_11 : GoodIn wsL_reads wsX80 := goodIn_r _ [289, 290, 291, 292, 293] (by decide +kernel) (by decide +kernel)
set_option maxRecDepth 20000 in
theorem ggL_reads_X8_read_12 : GoodIn wsL_reads wsX40 := goodIn_r _ [297, 298, 299, 300, 301, 302] (by decide +kernel) (by decide +kernel)
set_option maxRecDepth 20000 in
theorem ggL_reads_X8_read_13 : GoodIn wsL_reads wsX10 := goodIn_r _ [303, 304, 305] (by decide +kernel) (by decide +kernel)
set_option maxRecDepth 20000 in
theorem ggL_reads_X8_read_14 : GoodIn wsL_reads wsX30 := goodIn_r _ [296] (by decide +kernel) (by decide +kernel)
set_option maxRecDepth 20000 in
theorem ggL_reads_X8_read_15 : GoodIn wsL_reads wsX70 := goodIn_r _ [294, 295] (by decide +kernel) (by decide +kernel)
set_option maxRecDepth 20000 in
theorem ggL_reads_X8_read_16 : GoodIn wsL_reads wsX60 := goodIn_r _ [306, 307, 308, 309, 310, 311] (by decide +kernel) (by decide +kernel)
set_option maxRecDepth 20000 in
theorem ggL_reads_X8_read_17 : GoodIn wsL_reads wsX00 := goodIn_r _ [312, 313, 314, 315] (by decide +kernel) (by decide +kernel)
set_option maxRecDepth 20000 in
theorem ggL_reads_X8_read_18 : GoodIn wsL_reads wsX20 := goodIn_r _ [316, 317, 318, 319, 320] (by decide +kernel) (by decide +kernel)
set_option maxRecDepth 20000 in
theorem ggL_reads_X8_read_19 : GoodIn wsL_reads wsX50 := goodIn_r _ [321, 322, 323, 324, 325, 326] (by decide +kernel) (by decide +kernel)
theorem ggL_reads_X8_read : GoodIn wsL_reads wsX8_read := goodIn_ca (goodIn_ca (goodIn_ca (goodIn_ca (goodIn_ca (goodIn_ca (goodIn_ca (goodIn_ca (goodIn_ca (goodIn_ca (ggL_reads_X8_read_1) (goodIn_app (ggL_reads_X8_read_2) (goodIn_app (ggL_reads_X8_read_3) (goodIn_app (ggL_reads_X8_read_4) (goodIn_app (ggL_reads_X8_read_5) (goodIn_app (ggL_reads_X8_read_6) (goodIn_app (ggL_reads_X8_read_7) (goodIn_app (ggL_reads_X8_read_8) (goodIn_app (ggL_reads_X8_read_9) (ggL_reads_X8_read_10)))))))))) (ggL_reads_X8_read_11)) (ggL_reads_X8_read_12)) (ggL_reads_X8_read_13)) (ggL_reads_X8_read_14)) (ggL_reads_X8_read_15)) (ggL_reads_X8_read_16)) (ggL_reads_X8_read_17)) (ggL_reads_X8_read_18)) (ggL_reads_X8_read_19)
set_option maxRecDepth 20000 in
theorem gL_reads_X8_read : GoodIn wsL_reads (wsV RL 47 RX8 yX8_read wsX8_read) := goodIn_app (goodIn_of _ (by decide +kernel)) ggL_reads_X8_read
set_option maxRecDepth 20000 in
theorem ggL_reads_L_many : GoodIn wsL_reads wsL_many := goodIn_r _ [272, 273, 274, 275, 271, 276, 277, 278, 279, 280, 281, 282, 283, 284, 285, 286, 287, 288] (by decide +kernel) (by decide +kernel)
set_option maxRecDepth 20000 in
theorem gL_reads_L_many : GoodIn wsL_reads (va_wsS RL 50 yL_many wsL_many) := goodIn_app (goodIn_of _ (by decide +kernel)) ggL_reads_L_many
theorem dL_reads_0 : decode cL_reads 0 = .ok (.iload 6, 2) := by decide +kernel
theorem dL_reads_2 : decode cL_reads 2 = .ok (.iconst 2, 1) := by decide +kernel
theorem dL_reads_3 : decode cL_reads 3 = .ok (.irem, 1) := by decide +kernel
theorem dL_reads_4 : decode cL_reads 4 = .ok (.istore 7, 2) := by decide +kernel
theorem dL_reads_6 : decode cL_reads 6 = .ok (.iconst 1, 1) := by decide +kernel
theorem dL_reads_7 : decode cL_reads 7 = .ok (.iload 6, 2) := by decide +kernel
theorem dL_reads_9 : decode cL_reads 9 = .ok (.iconst 2, 1) := by decide +kernel
theorem dL_reads_10 : decode cL_reads 10 = .ok (.idiv, 1) := by decide +kernel
theorem dL_reads_11 : decode cL_reads 11 = .ok (.iconst 4, 1) := by decide +kernel
theorem dL_reads_12 : decode cL_reads 12 = .ok (.irem, 1) := by decide +kernel
theorem dL_reads_13 : decode cL_reads 13 = .ok (.iadd, 1) := by decide +kernel
theorem dL_reads_14 : decode cL_reads 14 = .ok (.istore 8, 2) := by decide +kernel
theorem dL_reads_16 : decode cL_reads 16 = .ok (.aload_n 0, 1) := by decide +kernel
theorem dL_reads_17 : decode cL_reads 17 = .ok (.invokevirtual 34, 3) := by decide +kernel
theorem dL_reads_20 : decode cL_reads 20 = .ok (.ifCond .lt 7, 3) := by decide +kernel
theorem dL_reads_23 : decode cL_reads 23 = .ok (.iconst 1, 1) := by decide +kernel
theorem dL_reads_24 : decode cL_reads 24 = .ok (.goto 4, 3) := by decide +kernel
theorem dL_reads_27 : decode cL_reads 27 = .ok (.iconst 0, 1) := by decide +kernel
theorem dL_reads_28 : decode cL_reads 28 = .ok (.istore 9, 2) := by decide +kernel
theorem dL_reads_30 : decode cL_reads 30 = .ok (.iload 8, 2) := by decide +kernel
theorem dL_reads_32 : decode cL_reads 32 = .ok (.aload_n 1, 1) := by decide +kernel
theorem dL_reads_33 : decode cL_reads 33 = .ok (.iload 7, 2) := by decide +kernel
theorem dL_reads_35 : decode cL_reads 35 = .ok (.iaload, 1) := by decide +kernel
theorem dL_reads_36 : decode cL_reads 36 = .ok (.if_icmp .gt 7, 3) := by decide +kernel
theorem dL_reads_39 : decode cL_reads 39 = .ok (.iconst 1, 1) := by decide +kernel
theorem dL_reads_40 : decode cL_reads 40 = .ok (.goto 4, 3) := by decide +kernel
theorem dL_reads_43 : decode cL_reads 43 = .ok (.iconst 0, 1) := by decide +kernel
theorem dL_reads_44 : decode cL_reads 44 = .ok (.istore 10, 2) := by decide +kernel
theorem dL_reads_46 : decode cL_reads 46 = .ok (.iconst 0, 1) := by decide +kernel
theorem dL_reads_47 : decode cL_reads 47 = .ok (.istore 11, 2) := by decide +kernel
theorem dL_reads_49 : decode cL_reads 49 = .ok (.iload 11, 2) := by decide +kernel
theorem dL_reads_51 : decode cL_reads 51 = .ok (.iload 8, 2) := by decide +kernel
theorem dL_reads_53 : decode cL_reads 53 = .ok (.if_icmp .ge 409, 3) := by decide +kernel
theorem dL_reads_56 : decode cL_reads 56 = .ok (.iload 6, 2) := by decide +kernel
theorem dL_reads_58 : decode cL_reads 58 = .ok (.iconst 3, 1) := by decide +kernel
theorem dL_reads_59 : decode cL_reads 59 = .ok (.iconst 5, 1) := by decide +kernel
theorem dL_reads_60 : decode cL_reads 60 = .ok (.iload 11, 2) := by decide +kernel
theorem dL_reads_62 : decode cL_reads 62 = .ok (.imul, 1) := by decide +kernel
theorem dL_reads_63 : decode cL_reads 63 = .ok (.iadd, 1) := by decide +kernel
theorem dL_reads_64 : decode cL_reads 64 = .ok (.idiv, 1) := by decide +kernel
theorem dL_reads_65 : decode cL_reads 65 = .ok (.bipush 11, 2) := by decide +kernel
theorem dL_reads_67 : decode cL_reads 67 = .ok (.irem, 1) := by decide +kernel
theorem dL_reads_68 : decode cL_reads 68 = .ok (.istore 12, 2) := by decide +kernel
theorem dL_reads_70 : decode cL_reads 70 = .ok (.iload 12, 2) := by decide +kernel
theorem dL_reads_72 : decode cL_reads 72 = .ok (.iconst 3, 1) := by decide +kernel
theorem dL_reads_73 : decode cL_reads 73 = .ok (.if_icmp .ge 7, 3) := by decide +kernel
theorem dL_reads_76 : decode cL_reads 76 = .ok (.iconst 0, 1) := by decide +kernel
theorem dL_reads_77 : decode cL_reads 77 = .ok (.goto 46, 3) := by decide +kernel
theorem dL_reads_80 : decode cL_reads 80 = .ok (.iload 12, 2) := by decide +kernel
theorem dL_reads_82 : decode cL_reads 82 = .ok (.bipush 7, 2) := by decide +kernel
theorem dL_reads_84 : decode cL_reads 84 = .ok (.if_icmp .le 16, 3) := by decide +kernel
theorem dL_reads_87 : decode cL_reads 87 = .ok (.iload 6, 2) := by decide +kernel
theorem dL_reads_89 : decode cL_reads 89 = .ok (.bipush 7, 2) := by decide +kernel
theorem dL_reads_91 : decode cL_reads 91 = .ok (.iload 11, 2) := by decide +kernel
theorem dL_reads_93 : decode cL_reads 93 = .ok (.iadd, 1) := by decide +kernel
theorem dL_reads_94 : decode cL_reads 94 = .ok (.idiv, 1) := by decide +kernel
theorem dL_reads_95 : decode cL_reads 95 = .ok (.iconst 4, 1) := by decide +kernel
theorem dL_reads_96 : decode cL_reads 96 = .ok (.irem, 1) := by decide +kernel
theorem dL_reads_97 : decode cL_reads 97 = .ok (.goto 26, 3) := by decide +kernel
theorem dL_reads_100 : decode cL_reads 100 = .ok (.iload 6, 2) := by decide +kernel
theorem dL_reads_102 : decode cL_reads 102 = .ok (.bipush 7, 2) := by decide +kernel
theorem dL_reads_104 : decode cL_reads 104 = .ok (.iload 11, 2) := by decide +kernel
theorem dL_reads_106 : decode cL_reads 106 = .ok (.iadd, 1) := by decide +kernel
theorem dL_reads_107 : decode cL_reads 107 = .ok (.idiv, 1) := by decide +kernel
theorem dL_reads_108 : decode cL_reads 108 = .ok (.iload 6, 2) := by decide +kernel
theorem dL_reads_110 : decode cL_reads 110 = .ok (.iconst 3, 1) := by decide +kernel
theorem dL_reads_111 : decode cL_reads 111 = .ok (.irem, 1) := by decide +kernel
theorem dL_reads_112 : decode cL_reads 112 = .ok (.ifCond .ne 8, 3) := by decide +kernel
theorem dL_reads_115 : decode cL_reads 115 = .ok (.bipush 100, 2) := by decide +kernel
theorem dL_reads_117 : decode cL_reads 117 = .ok (.goto 5, 3) := by decide +kernel
theorem dL_reads_120 : decode cL_reads 120 = .ok (.bipush 6, 2) := by decide +kernel
theorem dL_reads_122 : decode cL_reads 122 = .ok (.irem, 1) := by decide +kernel
theorem dL_reads_123 : decode cL_reads 123 = .ok (.istore 13, 2) := by decide +kernel
theorem dL_reads_125 : decode cL_reads 125 = .ok (.iload 12, 2) := by decide +kernel
theorem dL_reads_127 : decode cL_reads 127 = .ok (.bipush 7, 2) := by decide +kernel
theorem dL_reads_129 : decode cL_reads 129 = .ok (.if_icmp .ne 19, 3) := by decide +kernel
theorem dL_reads_132 : decode cL_reads 132 = .ok (.iload 13, 2) := by decide +kernel
theorem dL_reads_134 : decode cL_reads 134 = .ok (.iload 6, 2) := by decide +kernel
theorem dL_reads_136 : decode cL_reads 136 = .ok (.bipush 11, 2) := by decide +kernel
theorem dL_reads_138 : decode cL_reads 138 = .ok (.iload 11, 2) := by decide +kernel
theorem dL_reads_140 : decode cL_reads 140 = .ok (.iadd, 1) := by decide +kernel
theorem dL_reads_141 : decode cL_reads 141 = .ok (.idiv, 1) := by decide +kernel
theorem dL_reads_142 : decode cL_reads 142 = .ok (.iconst 4, 1) := by decide +kernel
theorem dL_reads_143 : decode cL_reads 143 = .ok (.irem, 1) := by decide +kernel
theorem dL_reads_144 : decode cL_reads 144 = .ok (.iadd, 1) := by decide +kernel
theorem dL_reads_145 : decode cL_reads 145 = .ok (.goto 4, 3) := by decide +kernel
theorem dL_reads_148 : decode cL_reads 148 = .ok (.iconst 0, 1) := by decide +kernel
theorem dL_reads_149 : decode cL_reads 149 = .ok (.istore 14, 2) := by decide +kernel
theorem dL_reads_151 : decode cL_reads 151 = .ok (.iload 14, 2) := by decide +kernel
theorem dL_reads_153 : decode cL_reads 153 = .ok (.bipush 99, 2) := by decide +kernel
theorem dL_reads_155 : decode cL_reads 155 = .ok (.if_icmp .le 8, 3) := by decide +kernel
theorem dL_reads_158 : decode cL_reads 158 = .ok (.bipush 99, 2) := by decide +kernel
theorem dL_reads_160 : decode cL_reads 160 = .ok (.goto 5, 3) := by decide +kernel
theorem dL_reads_163 : decode cL_reads 163 = .ok (.iload 14, 2) := by decide +kernel
theorem dL_reads_165 : decode cL_reads 165 = .ok (.istore 14, 2) := by decide +kernel
theorem dL_reads_167 : decode cL_reads 167 = .ok (.iload 9, 2) := by decide +kernel
theorem dL_reads_169 : decode cL_reads 169 = .ok (.ifCond .eq 136, 3) := by decide +kernel
theorem dL_reads_172 : decode cL_reads 172 = .ok (.iload 11, 2) := by decide +kernel
theorem dL_reads_174 : decode cL_reads 174 = .ok (.ifCond .eq 12, 3) := by decide +kernel
theorem dL_reads_177 : decode cL_reads 177 = .ok (.aload_n 0, 1) := by decide +kernel
theorem dL_reads_178 : decode cL_reads 178 = .ok (.bipush 44, 2) := by decide +kernel
theorem dL_reads_180 : decode cL_reads 180 = .ok (.invokevirtual 40, 3) := by decide +kernel
theorem dL_reads_183 : decode cL_reads 183 = .ok (.ifCond .le 122, 3) := by decide +kernel
theorem dL_reads_186 : decode cL_reads 186 = .ok (.iload 12, 2) := by decide +kernel
theorem dL_reads_188 : decode cL_reads 188 = .ok (.iconst 2, 1) := by decide +kernel
theorem dL_reads_189 : decode cL_reads 189 = .ok (.if_icmp .gt 33, 3) := by decide +kernel
theorem dL_reads_192 : decode cL_reads 192 = .ok (.aload_n 0, 1) := by decide +kernel
theorem dL_reads_193 : decode cL_reads 193 = .ok (.iload 12, 2) := by decide +kernel
theorem dL_reads_195 : decode cL_reads 195 = .ok (.ifCond .ne 8, 3) := by decide +kernel
theorem dL_reads_198 : decode cL_reads 198 = .ok (.bipush 42, 2) := by decide +kernel
theorem dL_reads_200 : decode cL_reads 200 = .ok (.goto 16, 3) := by decide +kernel
theorem dL_reads_203 : decode cL_reads 203 = .ok (.iload 12, 2) := by decide +kernel
theorem dL_reads_205 : decode cL_reads 205 = .ok (.iconst 1, 1) := by decide +kernel
theorem dL_reads_206 : decode cL_reads 206 = .ok (.if_icmp .ne 8, 3) := by decide +kernel
theorem dL_reads_209 : decode cL_reads 209 = .ok (.bipush 95, 2) := by decide +kernel
theorem dL_reads_211 : decode cL_reads 211 = .ok (.goto 5, 3) := by decide +kernel
theorem dL_reads_214 : decode cL_reads 214 = .ok (.bipush 33, 2) := by decide +kernel
theorem dL_reads_216 : decode cL_reads 216 = .ok (.invokevirtual 40, 3) := by decide +kernel
theorem dL_reads_219 : decode cL_reads 219 = .ok (.ifCond .le 86, 3) := by decide +kernel
theorem dL_reads_222 : decode cL_reads 222 = .ok (.iload 12, 2) := by decide +kernel
theorem dL_reads_224 : decode cL_reads 224 = .ok (.iconst 4, 1) := by decide +kernel
theorem dL_reads_225 : decode cL_reads 225 = .ok (.if_icmp .ne 12, 3) := by decide +kernel
theorem dL_reads_228 : decode cL_reads 228 = .ok (.aload_n 0, 1) := by decide +kernel
theorem dL_reads_229 : decode cL_reads 229 = .ok (.bipush 35, 2) := by decide +kernel
theorem dL_reads_231 : decode cL_reads 231 = .ok (.invokevirtual 40, 3) := by decide +kernel
theorem dL_reads_234 : decode cL_reads 234 = .ok (.ifCond .le 71, 3) := by decide +kernel
theorem dL_reads_237 : decode cL_reads 237 = .ok (.iload 12, 2) := by decide +kernel
theorem dL_reads_239 : decode cL_reads 239 = .ok (.iconst 5, 1) := by decide +kernel
theorem dL_reads_240 : decode cL_reads 240 = .ok (.if_icmp .eq 10, 3) := by decide +kernel
theorem dL_reads_243 : decode cL_reads 243 = .ok (.iload 12, 2) := by decide +kernel
theorem dL_reads_245 : decode cL_reads 245 = .ok (.bipush 9, 2) := by decide +kernel
theorem dL_reads_247 : decode cL_reads 247 = .ok (.if_icmp .ne 12, 3) := by decide +kernel
theorem dL_reads_250 : decode cL_reads 250 = .ok (.aload_n 0, 1) := by decide +kernel
theorem dL_reads_251 : decode cL_reads 251 = .ok (.bipush 60, 2) := by decide +kernel
theorem dL_reads_253 : decode cL_reads 253 = .ok (.invokevirtual 40, 3) := by decide +kernel
theorem dL_reads_256 : decode cL_reads 256 = .ok (.ifCond .le 49, 3) := by decide +kernel
theorem dL_reads_259 : decode cL_reads 259 = .ok (.iload 12, 2) := by decide +kernel
theorem dL_reads_261 : decode cL_reads 261 = .ok (.bipush 6, 2) := by decide +kernel
theorem dL_reads_263 : decode cL_reads 263 = .ok (.if_icmp .eq 10, 3) := by decide +kernel
theorem dL_reads_266 : decode cL_reads 266 = .ok (.iload 12, 2) := by decide +kernel
theorem dL_reads_268 : decode cL_reads 268 = .ok (.bipush 10, 2) := by decide +kernel
theorem dL_reads_270 : decode cL_reads 270 = .ok (.if_icmp .ne 12, 3) := by decide +kernel
theorem dL_reads_273 : decode cL_reads 273 = .ok (.aload_n 0, 1) := by decide +kernel
theorem dL_reads_274 : decode cL_reads 274 = .ok (.bipush 62, 2) := by decide +kernel
theorem dL_reads_276 : decode cL_reads 276 = .ok (.invokevirtual 40, 3) := by decide +kernel
theorem dL_reads_279 : decode cL_reads 279 = .ok (.ifCond .le 26, 3) := by decide +kernel
theorem dL_reads_282 : decode cL_reads 282 = .ok (.iload 12, 2) := by decide +kernel
theorem dL_reads_284 : decode cL_reads 284 = .ok (.bipush 8, 2) := by decide +kernel
theorem dL_reads_286 : decode cL_reads 286 = .ok (.if_icmp .lt 15, 3) := by decide +kernel
theorem dL_reads_289 : decode cL_reads 289 = .ok (.aload_n 0, 1) := by decide +kernel
theorem dL_reads_290 : decode cL_reads 290 = .ok (.bipush 119, 2) := by decide +kernel
theorem dL_reads_292 : decode cL_reads 292 = .ok (.iload 13, 2) := by decide +kernel
theorem dL_reads_294 : decode cL_reads 294 = .ok (.iadd, 1) := by decide +kernel
theorem dL_reads_295 : decode cL_reads 295 = .ok (.invokevirtual 40, 3) := by decide +kernel
theorem dL_reads_298 : decode cL_reads 298 = .ok (.ifCond .le 7, 3) := by decide +kernel
theorem dL_reads_301 : decode cL_reads 301 = .ok (.iconst 1, 1) := by decide +kernel
theorem dL_reads_302 : decode cL_reads 302 = .ok (.goto 4, 3) := by decide +kernel
theorem dL_reads_305 : decode cL_reads 305 = .ok (.iconst 0, 1) := by decide +kernel
theorem dL_reads_306 : decode cL_reads 306 = .ok (.istore 9, 2) := by decide +kernel
theorem dL_reads_308 : decode cL_reads 308 = .ok (.iload 9, 2) := by decide +kernel
theorem dL_reads_310 : decode cL_reads 310 = .ok (.ifCond .eq 103, 3) := by decide +kernel
theorem dL_reads_313 : decode cL_reads 313 = .ok (.iload 12, 2) := by decide +kernel
theorem dL_reads_315 : decode cL_reads 315 = .ok (.iconst 3, 1) := by decide +kernel
theorem dL_reads_316 : decode cL_reads 316 = .ok (.if_icmp .lt 47, 3) := by decide +kernel
theorem dL_reads_319 : decode cL_reads 319 = .ok (.iload 12, 2) := by decide +kernel
theorem dL_reads_321 : decode cL_reads 321 = .ok (.bipush 7, 2) := by decide +kernel
theorem dL_reads_323 : decode cL_reads 323 = .ok (.if_icmp .gt 40, 3) := by decide +kernel
theorem dL_reads_326 : decode cL_reads 326 = .ok (.iload 13, 2) := by decide +kernel
theorem dL_reads_328 : decode cL_reads 328 = .ok (.bipush 10, 2) := by decide +kernel
theorem dL_reads_330 : decode cL_reads 330 = .ok (.if_icmp .lt 18, 3) := by decide +kernel
theorem dL_reads_333 : decode cL_reads 333 = .ok (.aload_n 0, 1) := by decide +kernel
theorem dL_reads_334 : decode cL_reads 334 = .ok (.bipush 48, 2) := by decide +kernel
theorem dL_reads_336 : decode cL_reads 336 = .ok (.iload 13, 2) := by decide +kernel
theorem dL_reads_338 : decode cL_reads 338 = .ok (.bipush 10, 2) := by decide +kernel
theorem dL_reads_340 : decode cL_reads 340 = .ok (.idiv, 1) := by decide +kernel
theorem dL_reads_341 : decode cL_reads 341 = .ok (.iadd, 1) := by decide +kernel
theorem dL_reads_342 : decode cL_reads 342 = .ok (.invokevirtual 40, 3) := by decide +kernel
theorem dL_reads_345 : decode cL_reads 345 = .ok (.ifCond .le 68, 3) := by decide +kernel
theorem dL_reads_348 : decode cL_reads 348 = .ok (.aload_n 0, 1) := by decide +kernel
theorem dL_reads_349 : decode cL_reads 349 = .ok (.bipush 48, 2) := by decide +kernel
theorem dL_reads_351 : decode cL_reads 351 = .ok (.iload 13, 2) := by decide +kernel
theorem dL_reads_353 : decode cL_reads 353 = .ok (.bipush 10, 2) := by decide +kernel
theorem dL_reads_355 : decode cL_reads 355 = .ok (.irem, 1) := by decide +kernel
theorem dL_reads_356 : decode cL_reads 356 = .ok (.iadd, 1) := by decide +kernel
theorem dL_reads_357 : decode cL_reads 357 = .ok (.invokevirtual 40, 3) := by decide +kernel
theorem dL_reads_360 : decode cL_reads 360 = .ok (.ifCond .le 53, 3) := by decide +kernel
theorem dL_reads_363 : decode cL_reads 363 = .ok (.iload 12, 2) := by decide +kernel
theorem dL_reads_365 : decode cL_reads 365 = .ok (.bipush 7, 2) := by decide +kernel
theorem dL_reads_367 : decode cL_reads 367 = .ok (.if_icmp .ne 42, 3) := by decide +kernel
theorem dL_reads_370 : decode cL_reads 370 = .ok (.aload_n 0, 1) := by decide +kernel
theorem dL_reads_371 : decode cL_reads 371 = .ok (.bipush 45, 2) := by decide +kernel
theorem dL_reads_373 : decode cL_reads 373 = .ok (.invokevirtual 40, 3) := by decide +kernel
theorem dL_reads_376 : decode cL_reads 376 = .ok (.ifCond .le 37, 3) := by decide +kernel
theorem dL_reads_379 : decode cL_reads 379 = .ok (.aload_n 0, 1) := by decide +kernel
theorem dL_reads_380 : decode cL_reads 380 = .ok (.bipush 48, 2) := by decide +kernel
