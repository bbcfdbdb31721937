theorem dX4_readBound_16 : decode cX4_readBound 16 = .ok (.ifCond .eq 33, 3) := by decide +kernel
theorem dX4_readBound_19 : decode cX4_readBound 19 = .ok (.aload_n 0, 1) := by decide +kernel
theorem dX4_readBound_20 : decode cX4_readBound 20 = .ok (.dup, 1) := by decide +kernel
theorem dX4_readBound_21 : decode cX4_readBound 21 = .ok (.getfield 22, 3) := by decide +kernel
theorem dX4_readBound_24 : decode cX4_readBound 24 = .ok (.iconst 1, 1) := by decide +kernel
theorem dX4_readBound_25 : decode cX4_readBound 25 = .ok (.iadd, 1) := by decide +kernel
theorem dX4_readBound_26 : decode cX4_readBound 26 = .ok (.putfield 22, 3) := by decide +kernel
theorem dX4_readBound_29 : decode cX4_readBound 29 = .ok (.aload_n 0, 1) := by decide +kernel
theorem dX4_readBound_30 : decode cX4_readBound 30 = .ok (.getfield 12, 3) := by decide +kernel
theorem dX4_readBound_33 : decode cX4_readBound 33 = .ok (.aload_n 0, 1) := by decide +kernel
theorem dX4_readBound_34 : decode cX4_readBound 34 = .ok (.getfield 18, 3) := by decide +kernel
theorem dX4_readBound_37 : decode cX4_readBound 37 = .ok (.iload_n 2, 1) := by decide +kernel
theorem dX4_readBound_38 : decode cX4_readBound 38 = .ok (.iload_n 3, 1) := by decide +kernel
theorem dX4_readBound_39 : decode cX4_readBound 39 = .ok (.bipush 119, 2) := by decide +kernel
theorem dX4_readBound_41 : decode cX4_readBound 41 = .ok (.isub, 1) := by decide +kernel
theorem dX4_readBound_42 : decode cX4_readBound 42 = .ok (.iconst 0, 1) := by decide +kernel
theorem dX4_readBound_43 : decode cX4_readBound 43 = .ok (.invokevirtual 70, 3) := by decide +kernel
theorem dX4_readBound_46 : decode cX4_readBound 46 = .ok (.goto 20, 3) := by decide +kernel
theorem dX4_readBound_49 : decode cX4_readBound 49 = .ok (.aload_n 0, 1) := by decide +kernel
theorem dX4_readBound_50 : decode cX4_readBound 50 = .ok (.getfield 12, 3) := by decide +kernel
theorem dX4_readBound_53 : decode cX4_readBound 53 = .ok (.aload_n 0, 1) := by decide +kernel
theorem dX4_readBound_54 : decode cX4_readBound 54 = .ok (.getfield 18, 3) := by decide +kernel
theorem dX4_readBound_57 : decode cX4_readBound 57 = .ok (.iload_n 1, 1) := by decide +kernel
theorem dX4_readBound_58 : decode cX4_readBound 58 = .ok (.aload_n 0, 1) := by decide +kernel
theorem dX4_readBound_59 : decode cX4_readBound 59 = .ok (.invokevirtual 74, 3) := by decide +kernel
theorem dX4_readBound_62 : decode cX4_readBound 62 = .ok (.iconst 0, 1) := by decide +kernel
theorem dX4_readBound_63 : decode cX4_readBound 63 = .ok (.invokevirtual 70, 3) := by decide +kernel
theorem dX4_readBound_66 : decode cX4_readBound 66 = .ok (.return_, 1) := by decide +kernel
set_option maxRecDepth 20000 in
theorem ggX4_readNumber_X7_characterAt : GoodIn wsX4_readNumber wsX7_characterAt := goodIn_r _ [7, 8, 9, 10, 11, 12, 13, 14, 15, 32, 33, 34] (by decide +kernel) (by decide +kernel)
set_option maxRecDepth 20000 in
theorem gX4_readNumber_X7_characterAt : GoodIn wsX4_readNumber (wsV RX4 38 RX7 yX7_characterAt wsX7_characterAt) := goodIn_app (goodIn_of _ (by decide +kernel)) ggX4_readNumber_X7_characterAt
set_option maxRecDepth 20000 in
theorem ggX4_readNumber_X4_isDigit : GoodIn wsX4_readNumber wsX4_isDigit := goodIn_r _ [19] (by decide +kernel) (by decide +kernel)
set_option maxRecDepth 20000 in
theorem gX4_readNumber_X4_isDigit : GoodIn wsX4_readNumber (va_wsS RX4 63 yX4_isDigit wsX4_isDigit) := goodIn_app (goodIn_of _ (by decide +kernel)) ggX4_readNumber_X4_isDigit
set_option maxRecDepth 20000 in
theorem ggX4_readNumber_X4_fail : GoodIn wsX4_readNumber wsX4_fail := goodIn_r _ [23, 24, 25, 26, 27, 28, 29, 30, 31] (by decide +kernel) (by decide +kernel)
set_option maxRecDepth 20000 in
theorem gX4_readNumber_X4_fail : GoodIn wsX4_readNumber (wsV RX4 59 RX4 yX4_fail wsX4_fail) := goodIn_app (goodIn_of _ (by decide +kernel)) ggX4_readNumber_X4_fail
theorem dX4_readNumber_0 : decode cX4_readNumber 0 = .ok (.aload_n 0, 1) := by decide +kernel
theorem dX4_readNumber_1 : decode cX4_readNumber 1 = .ok (.getfield 31, 3) := by decide +kernel
theorem dX4_readNumber_4 : decode cX4_readNumber 4 = .ok (.aload_n 0, 1) := by decide +kernel
theorem dX4_readNumber_5 : decode cX4_readNumber 5 = .ok (.getfield 22, 3) := by decide +kernel
theorem dX4_readNumber_8 : decode cX4_readNumber 8 = .ok (.invokevirtual 38, 3) := by decide +kernel
theorem dX4_readNumber_11 : decode cX4_readNumber 11 = .ok (.istore_n 1, 1) := by decide +kernel
theorem dX4_readNumber_12 : decode cX4_readNumber 12 = .ok (.iload_n 1, 1) := by decide +kernel
theorem dX4_readNumber_13 : decode cX4_readNumber 13 = .ok (.invokestatic 63, 3) := by decide +kernel
theorem dX4_readNumber_16 : decode cX4_readNumber 16 = .ok (.ifCond .ne 14, 3) := by decide +kernel
theorem dX4_readNumber_19 : decode cX4_readNumber 19 = .ok (.aload_n 0, 1) := by decide +kernel
theorem dX4_readNumber_20 : decode cX4_readNumber 20 = .ok (.aload_n 0, 1) := by decide +kernel
theorem dX4_readNumber_21 : decode cX4_readNumber 21 = .ok (.getfield 22, 3) := by decide +kernel
theorem dX4_readNumber_24 : decode cX4_readNumber 24 = .ok (.iconst 1, 1) := by decide +kernel
theorem dX4_readNumber_25 : decode cX4_readNumber 25 = .ok (.invokevirtual 59, 3) := by decide +kernel
theorem dX4_readNumber_28 : decode cX4_readNumber 28 = .ok (.iconst 0, 1) := by decide +kernel
theorem dX4_readNumber_29 : decode cX4_readNumber 29 = .ok (.ireturn, 1) := by decide +kernel
theorem dX4_readNumber_30 : decode cX4_readNumber 30 = .ok (.iload_n 1, 1) := by decide +kernel
theorem dX4_readNumber_31 : decode cX4_readNumber 31 = .ok (.bipush 48, 2) := by decide +kernel
theorem dX4_readNumber_33 : decode cX4_readNumber 33 = .ok (.isub, 1) := by decide +kernel
theorem dX4_readNumber_34 : decode cX4_readNumber 34 = .ok (.istore_n 2, 1) := by decide +kernel
theorem dX4_readNumber_35 : decode cX4_readNumber 35 = .ok (.aload_n 0, 1) := by decide +kernel
theorem dX4_readNumber_36 : decode cX4_readNumber 36 = .ok (.dup, 1) := by decide +kernel
theorem dX4_readNumber_37 : decode cX4_readNumber 37 = .ok (.getfield 22, 3) := by decide +kernel
theorem dX4_readNumber_40 : decode cX4_readNumber 40 = .ok (.iconst 1, 1) := by decide +kernel
theorem dX4_readNumber_41 : decode cX4_readNumber 41 = .ok (.iadd, 1) := by decide +kernel
theorem dX4_readNumber_42 : decode cX4_readNumber 42 = .ok (.putfield 22, 3) := by decide +kernel
theorem dX4_readNumber_45 : decode cX4_readNumber 45 = .ok (.aload_n 0, 1) := by decide +kernel
theorem dX4_readNumber_46 : decode cX4_readNumber 46 = .ok (.getfield 31, 3) := by decide +kernel
theorem dX4_readNumber_49 : decode cX4_readNumber 49 = .ok (.aload_n 0, 1) := by decide +kernel
theorem dX4_readNumber_50 : decode cX4_readNumber 50 = .ok (.getfield 22, 3) := by decide +kernel
theorem dX4_readNumber_53 : decode cX4_readNumber 53 = .ok (.invokevirtual 38, 3) := by decide +kernel
theorem dX4_readNumber_56 : decode cX4_readNumber 56 = .ok (.istore_n 3, 1) := by decide +kernel
theorem dX4_readNumber_57 : decode cX4_readNumber 57 = .ok (.iload_n 3, 1) := by decide +kernel
theorem dX4_readNumber_58 : decode cX4_readNumber 58 = .ok (.invokestatic 63, 3) := by decide +kernel
theorem dX4_readNumber_61 : decode cX4_readNumber 61 = .ok (.ifCond .eq 23, 3) := by decide +kernel
theorem dX4_readNumber_64 : decode cX4_readNumber 64 = .ok (.bipush 10, 2) := by decide +kernel
theorem dX4_readNumber_66 : decode cX4_readNumber 66 = .ok (.iload_n 2, 1) := by decide +kernel
theorem dX4_readNumber_67 : decode cX4_readNumber 67 = .ok (.imul, 1) := by decide +kernel
theorem dX4_readNumber_68 : decode cX4_readNumber 68 = .ok (.iload_n 3, 1) := by decide +kernel
theorem dX4_readNumber_69 : decode cX4_readNumber 69 = .ok (.iadd, 1) := by decide +kernel
theorem dX4_readNumber_70 : decode cX4_readNumber 70 = .ok (.bipush 48, 2) := by decide +kernel
theorem dX4_readNumber_72 : decode cX4_readNumber 72 = .ok (.isub, 1) := by decide +kernel
theorem dX4_readNumber_73 : decode cX4_readNumber 73 = .ok (.istore_n 2, 1) := by decide +kernel
theorem dX4_readNumber_74 : decode cX4_readNumber 74 = .ok (.aload_n 0, 1) := by decide +kernel
theorem dX4_readNumber_75 : decode cX4_readNumber 75 = .ok (.dup, 1) := by decide +kernel
theorem dX4_readNumber_76 : decode cX4_readNumber 76 = .ok (.getfield 22, 3) := by decide +kernel
theorem dX4_readNumber_79 : decode cX4_readNumber 79 = .ok (.iconst 1, 1) := by decide +kernel
theorem dX4_readNumber_80 : decode cX4_readNumber 80 = .ok (.iadd, 1) := by decide +kernel
theorem dX4_readNumber_81 : decode cX4_readNumber 81 = .ok (.putfield 22, 3) := by decide +kernel
theorem dX4_readNumber_84 : decode cX4_readNumber 84 = .ok (.iload_n 2, 1) := by decide +kernel
theorem dX4_readNumber_85 : decode cX4_readNumber 85 = .ok (.ireturn, 1) := by decide +kernel
theorem dX4_fail_0 : decode cX4_fail 0 = .ok (.aload_n 0, 1) := by decide +kernel
theorem dX4_fail_1 : decode cX4_fail 1 = .ok (.iload_n 1, 1) := by decide +kernel
theorem dX4_fail_2 : decode cX4_fail 2 = .ok (.putfield 25, 3) := by decide +kernel
theorem dX4_fail_5 : decode cX4_fail 5 = .ok (.aload_n 0, 1) := by decide +kernel
theorem dX4_fail_6 : decode cX4_fail 6 = .ok (.iload_n 2, 1) := by decide +kernel
theorem dX4_fail_7 : decode cX4_fail 7 = .ok (.putfield 28, 3) := by decide +kernel
theorem dX4_fail_10 : decode cX4_fail 10 = .ok (.return_, 1) := by decide +kernel
theorem dX4_isDigit_0 : decode cX4_isDigit 0 = .ok (.iload_n 0, 1) := by decide +kernel
theorem dX4_isDigit_1 : decode cX4_isDigit 1 = .ok (.bipush 48, 2) := by decide +kernel
theorem dX4_isDigit_3 : decode cX4_isDigit 3 = .ok (.if_icmp .lt 13, 3) := by decide +kernel
theorem dX4_isDigit_6 : decode cX4_isDigit 6 = .ok (.iload_n 0, 1) := by decide +kernel
theorem dX4_isDigit_7 : decode cX4_isDigit 7 = .ok (.bipush 57, 2) := by decide +kernel
theorem dX4_isDigit_9 : decode cX4_isDigit 9 = .ok (.if_icmp .gt 7, 3) := by decide +kernel
theorem dX4_isDigit_12 : decode cX4_isDigit 12 = .ok (.iconst 1, 1) := by decide +kernel
theorem dX4_isDigit_13 : decode cX4_isDigit 13 = .ok (.goto 4, 3) := by decide +kernel
theorem dX4_isDigit_16 : decode cX4_isDigit 16 = .ok (.iconst 0, 1) := by decide +kernel
theorem dX4_isDigit_17 : decode cX4_isDigit 17 = .ok (.ireturn, 1) := by decide +kernel
theorem dX4_isLetter_0 : decode cX4_isLetter 0 = .ok (.iload_n 0, 1) := by decide +kernel
theorem dX4_isLetter_1 : decode cX4_isLetter 1 = .ok (.bipush 119, 2) := by decide +kernel
theorem dX4_isLetter_3 : decode cX4_isLetter 3 = .ok (.if_icmp .lt 13, 3) := by decide +kernel
theorem dX4_isLetter_6 : decode cX4_isLetter 6 = .ok (.iload_n 0, 1) := by decide +kernel
theorem dX4_isLetter_7 : decode cX4_isLetter 7 = .ok (.bipush 122, 2) := by decide +kernel
theorem dX4_isLetter_9 : decode cX4_isLetter 9 = .ok (.if_icmp .gt 7, 3) := by decide +kernel
theorem dX4_isLetter_12 : decode cX4_isLetter 12 = .ok (.iconst 1, 1) := by decide +kernel
theorem dX4_isLetter_13 : decode cX4_isLetter 13 = .ok (.goto 4, 3) := by decide +kernel
theorem dX4_isLetter_16 : decode cX4_isLetter 16 = .ok (.iconst 0, 1) := by decide +kernel
theorem dX4_isLetter_17 : decode cX4_isLetter 17 = .ok (.ireturn, 1) := by decide +kernel
set_option maxRecDepth 20000 in
theorem ggX5_init_X3_init : GoodIn wsX5_init wsX3_init := goodIn_r _ [15, 16, 2, 3, 17, 18, 19, 20, 21, 22, 23, 24, 25, 6, 26, 27] (by decide +kernel) (by decide +kernel)
set_option maxRecDepth 20000 in
theorem gX5_init_X3_init : GoodIn wsX5_init (wsX3_init) := ggX5_init_X3_init
theorem dX5_init_0 : decode cX5_init 0 = .ok (.aload_n 0, 1) := by decide +kernel
theorem dX5_init_1 : decode cX5_init 1 = .ok (.invokespecial 3, 3) := by decide +kernel
theorem dX5_init_4 : decode cX5_init 4 = .ok (.aload_n 0, 1) := by decide +kernel
theorem dX5_init_5 : decode cX5_init 5 = .ok (.new 9, 3) := by decide +kernel
theorem dX5_init_8 : decode cX5_init 8 = .ok (.dup, 1) := by decide +kernel
theorem dX5_init_9 : decode cX5_init 9 = .ok (.sipush 144, 3) := by decide +kernel
theorem dX5_init_12 : decode cX5_init 12 = .ok (.iconst 0, 1) := by decide +kernel
theorem dX5_init_13 : decode cX5_init 13 = .ok (.invokespecial 11, 3) := by decide +kernel
theorem dX5_init_16 : decode cX5_init 16 = .ok (.putfield 14, 3) := by decide +kernel
theorem dX5_init_19 : decode cX5_init 19 = .ok (.aload_n 0, 1) := by decide +kernel
theorem dX5_init_20 : decode cX5_init 20 = .ok (.new 9, 3) := by decide +kernel
theorem dX5_init_23 : decode cX5_init 23 = .ok (.dup, 1) := by decide +kernel
theorem dX5_init_24 : decode cX5_init 24 = .ok (.sipush 144, 3) := by decide +kernel
theorem dX5_init_27 : decode cX5_init 27 = .ok (.iconst 0, 1) := by decide +kernel
theorem dX5_init_28 : decode cX5_init 28 = .ok (.invokespecial 11, 3) := by decide +kernel
theorem dX5_init_31 : decode cX5_init 31 = .ok (.putfield 20, 3) := by decide +kernel
theorem dX5_init_34 : decode cX5_init 34 = .ok (.aload_n 0, 1) := by decide +kernel
theorem dX5_init_35 : decode cX5_init 35 = .ok (.new 9, 3) := by decide +kernel
theorem dX5_init_38 : decode cX5_init 38 = .ok (.dup, 1) := by decide +kernel
theorem dX5_init_39 : decode cX5_init 39 = .ok (.iconst 4, 1) := by decide +kernel
theorem dX5_init_40 : decode cX5_init 40 = .ok (.iconst (-1), 1) := by decide +kernel
theorem dX5_init_41 : decode cX5_init 41 = .ok (.invokespecial 11, 3) := by decide +kernel
theorem dX5_init_44 : decode cX5_init 44 = .ok (.putfield 23, 3) := by decide +kernel
theorem dX5_init_47 : decode cX5_init 47 = .ok (.aload_n 0, 1) := by decide +kernel
theorem dX5_init_48 : decode cX5_init 48 = .ok (.iconst 0, 1) := by decide +kernel
theorem dX5_init_49 : decode cX5_init 49 = .ok (.putfield 26, 3) := by decide +kernel
theorem dX5_init_52 : decode cX5_init 52 = .ok (.aload_n 0, 1) := by decide +kernel
theorem dX5_init_53 : decode cX5_init 53 = .ok (.iconst (-1), 1) := by decide +kernel
theorem dX5_init_54 : decode cX5_init 54 = .ok (.putfield 30, 3) := by decide +kernel
theorem dX5_init_57 : decode cX5_init 57 = .ok (.aload_n 0, 1) := by decide +kernel
theorem dX5_init_58 : decode cX5_init 58 = .ok (.aload_n 1, 1) := by decide +kernel
theorem dX5_init_59 : decode cX5_init 59 = .ok (.putfield 33, 3) := by decide +kernel
theorem dX5_init_62 : decode cX5_init 62 = .ok (.return_, 1) := by decide +kernel
set_option maxRecDepth 20000 in
theorem ggX5_find_X5_findTellers : GoodIn wsX5_find wsX5_findTellers := goodIn_r _ [8, 9, 10, 2, 11, 12, 13, 14, 15, 16, 17, 18, 19, 20, 21, 22, 23, 24, 25, 26, 27, 28, 29, 30, 31, 32, 33, 34, 35, 36, 37, 38, 39, 40, 41, 42, 43, 44, 45, 46, 47, 48, 49, 50, 51, 52, 53, 54, 55, 56, 57, 58, 59, 60, 61, 62, 102, 103, 104, 105, 106, 107, 108, 109, 110, 111, 112, 113, 114, 115, 116, 117, 118, 119, 120, 121] (by decide +kernel) (by decide +kernel)
set_option maxRecDepth 20000 in
theorem gX5_find_X5_findTellers : GoodIn wsX5_find (wsV RX5 37 RX5 yX5_findTellers wsX5_findTellers) := goodIn_app (goodIn_of _ (by decide +kernel)) ggX5_find_X5_findTellers
set_option maxRecDepth 20000 in
theorem ggX5_find_X6_drawer : GoodIn wsX5_find wsX6_drawer := goodIn_r _ [66, 22, 23, 109, 110, 111, 112, 113, 114] (by decide +kernel) (by decide +kernel)
set_option maxRecDepth 20000 in
theorem gX5_find_X6_drawer : GoodIn wsX5_find (wsV RX5 41 RX6 yX6_drawer wsX6_drawer) := goodIn_app (goodIn_of _ (by decide +kernel)) ggX5_find_X6_drawer
set_option maxRecDepth 20000 in
theorem ggX5_find_X0_size : GoodIn wsX5_find wsX0_size := goodIn_r _ [70, 71, 115, 116, 117, 118] (by decide +kernel) (by decide +kernel)
set_option maxRecDepth 20000 in
theorem gX5_find_X0_size : GoodIn wsX5_find (wsV RX5 47 RX0 yX0_size wsX0_size) := goodIn_app (goodIn_of _ (by decide +kernel)) ggX5_find_X0_size
set_option maxRecDepth 20000 in
theorem ggX5_find_X6_isOfBoth : GoodIn wsX5_find wsX6_isOfBoth := goodIn_r _ [42, 43, 109, 110, 111, 112, 113, 114] (by decide +kernel) (by decide +kernel)
set_option maxRecDepth 20000 in
theorem gX5_find_X6_isOfBoth : GoodIn wsX5_find (wsV RX5 52 RX6 yX6_isOfBoth wsX6_isOfBoth) := goodIn_app (goodIn_of _ (by decide +kernel)) ggX5_find_X6_isOfBoth
set_option maxRecDepth 20000 in
theorem ggX5_find_X5_firstMisfit : GoodIn wsX5_find wsX5_firstMisfit := goodIn_r _ [76, 2, 9, 30, 31, 32, 20, 33, 22, 23, 34, 35, 36, 27, 37, 38, 39, 40, 41, 42, 43, 77, 78, 79, 7, 80, 10, 17, 18, 19, 21, 24, 25, 26, 28, 29, 81, 82, 83, 84, 85, 86, 87, 88, 89, 90, 91, 92, 93, 71, 94, 95, 51, 52, 14, 53, 16, 44, 45, 46, 47, 48, 49, 50, 96, 97, 98, 99, 58, 100, 54, 55, 56, 57, 101, 102, 103, 104, 105, 106, 107, 109, 110, 111, 112, 113, 114, 115, 116, 117, 118, 108, 119, 120, 121] (by decide +kernel) (by decide +kernel)
set_option maxRecDepth 20000 in
theorem gX5_find_X5_firstMisfit : GoodIn wsX5_find (wsV RX5 56 RX5 yX5_firstMisfit wsX5_firstMisfit) := goodIn_app (goodIn_of _ (by decide +kernel)) ggX5_find_X5_firstMisfit
set_option maxRecDepth 20000 in
theorem ggX5_find_X3_set : GoodIn wsX5_find wsX3_set := goodIn_r _ [62, 16, 108] (by decide +kernel) (by decide +kernel)
set_option maxRecDepth 20000 in
theorem gX5_find_X3_set : GoodIn wsX5_find (wsV RX5 60 RX3 yX3_set wsX3_set) := goodIn_app (goodIn_of _ (by decide +kernel)) ggX5_find_X3_set
theorem dX5_find_0 : decode cX5_find 0 = .ok (.aload_n 0, 1) := by decide +kernel
theorem dX5_find_1 : decode cX5_find 1 = .ok (.iload_n 1, 1) := by decide +kernel
theorem dX5_find_2 : decode cX5_find 2 = .ok (.invokevirtual 37, 3) := by decide +kernel
theorem dX5_find_5 : decode cX5_find 5 = .ok (.aload_n 0, 1) := by decide +kernel
theorem dX5_find_6 : decode cX5_find 6 = .ok (.iconst 0, 1) := by decide +kernel
theorem dX5_find_7 : decode cX5_find 7 = .ok (.putfield 26, 3) := by decide +kernel
theorem dX5_find_10 : decode cX5_find 10 = .ok (.aload_n 0, 1) := by decide +kernel
theorem dX5_find_11 : decode cX5_find 11 = .ok (.getfield 33, 3) := by decide +kernel
theorem dX5_find_14 : decode cX5_find 14 = .ok (.iconst 0, 1) := by decide +kernel
theorem dX5_find_15 : decode cX5_find 15 = .ok (.invokevirtual 41, 3) := by decide +kernel
theorem dX5_find_18 : decode cX5_find 18 = .ok (.invokevirtual 47, 3) := by decide +kernel
theorem dX5_find_21 : decode cX5_find 21 = .ok (.istore_n 2, 1) := by decide +kernel
theorem dX5_find_22 : decode cX5_find 22 = .ok (.aload_n 0, 1) := by decide +kernel
theorem dX5_find_23 : decode cX5_find 23 = .ok (.getfield 33, 3) := by decide +kernel
theorem dX5_find_26 : decode cX5_find 26 = .ok (.invokevirtual 52, 3) := by decide +kernel
theorem dX5_find_29 : decode cX5_find 29 = .ok (.ifCond .eq 17, 3) := by decide +kernel
theorem dX5_find_32 : decode cX5_find 32 = .ok (.aload_n 0, 1) := by decide +kernel
theorem dX5_find_33 : decode cX5_find 33 = .ok (.getfield 33, 3) := by decide +kernel
theorem dX5_find_36 : decode cX5_find 36 = .ok (.iconst 1, 1) := by decide +kernel
theorem dX5_find_37 : decode cX5_find 37 = .ok (.invokevirtual 41, 3) := by decide +kernel
theorem dX5_find_40 : decode cX5_find 40 = .ok (.invokevirtual 47, 3) := by decide +kernel
theorem dX5_find_43 : decode cX5_find 43 = .ok (.goto 4, 3) := by decide +kernel
theorem dX5_find_46 : decode cX5_find 46 = .ok (.iconst 1, 1) := by decide +kernel
theorem dX5_find_47 : decode cX5_find 47 = .ok (.istore_n 3, 1) := by decide +kernel
theorem dX5_find_48 : decode cX5_find 48 = .ok (.iconst 0, 1) := by decide +kernel
theorem dX5_find_49 : decode cX5_find 49 = .ok (.istore 4, 2) := by decide +kernel
theorem dX5_find_51 : decode cX5_find 51 = .ok (.iload 4, 2) := by decide +kernel
theorem dX5_find_53 : decode cX5_find 53 = .ok (.iload_n 2, 1) := by decide +kernel
theorem dX5_find_54 : decode cX5_find 54 = .ok (.if_icmp .ge 67, 3) := by decide +kernel
theorem dX5_find_57 : decode cX5_find 57 = .ok (.iconst 0, 1) := by decide +kernel
theorem dX5_find_58 : decode cX5_find 58 = .ok (.istore 5, 2) := by decide +kernel
theorem dX5_find_60 : decode cX5_find 60 = .ok (.iload 5, 2) := by decide +kernel
theorem dX5_find_62 : decode cX5_find 62 = .ok (.iload_n 3, 1) := by decide +kernel
theorem dX5_find_63 : decode cX5_find 63 = .ok (.if_icmp .ge 52, 3) := by decide +kernel
theorem dX5_find_66 : decode cX5_find 66 = .ok (.iload 4, 2) := by decide +kernel
theorem dX5_find_68 : decode cX5_find 68 = .ok (.bipush 12, 2) := by decide +kernel
theorem dX5_find_70 : decode cX5_find 70 = .ok (.imul, 1) := by decide +kernel
theorem dX5_find_71 : decode cX5_find 71 = .ok (.iload 5, 2) := by decide +kernel
theorem dX5_find_73 : decode cX5_find 73 = .ok (.iadd, 1) := by decide +kernel
theorem dX5_find_74 : decode cX5_find 74 = .ok (.istore 6, 2) := by decide +kernel
theorem dX5_find_76 : decode cX5_find 76 = .ok (.aload_n 0, 1) := by decide +kernel
theorem dX5_find_77 : decode cX5_find 77 = .ok (.iload 6, 2) := by decide +kernel
theorem dX5_find_79 : decode cX5_find 79 = .ok (.invokevirtual 56, 3) := by decide +kernel
theorem dX5_find_82 : decode cX5_find 82 = .ok (.iconst (-1), 1) := by decide +kernel
theorem dX5_find_83 : decode cX5_find 83 = .ok (.if_icmp .ne 26, 3) := by decide +kernel
theorem dX5_find_86 : decode cX5_find 86 = .ok (.aload_n 0, 1) := by decide +kernel
theorem dX5_find_87 : decode cX5_find 87 = .ok (.getfield 14, 3) := by decide +kernel
theorem dX5_find_90 : decode cX5_find 90 = .ok (.aload_n 0, 1) := by decide +kernel
theorem dX5_find_91 : decode cX5_find 91 = .ok (.getfield 26, 3) := by decide +kernel
theorem dX5_find_94 : decode cX5_find 94 = .ok (.iload 6, 2) := by decide +kernel
theorem dX5_find_96 : decode cX5_find 96 = .ok (.invokevirtual 60, 3) := by decide +kernel
theorem dX5_find_99 : decode cX5_find 99 = .ok (.aload_n 0, 1) := by decide +kernel
theorem dX5_find_100 : decode cX5_find 100 = .ok (.dup, 1) := by decide +kernel
theorem dX5_find_101 : decode cX5_find 101 = .ok (.getfield 26, 3) := by decide +kernel
theorem dX5_find_104 : decode cX5_find 104 = .ok (.iconst 1, 1) := by decide +kernel
theorem dX5_find_105 : decode cX5_find 105 = .ok (.iadd, 1) := by decide +kernel
theorem dX5_find_106 : decode cX5_find 106 = .ok (.putfield 26, 3) := by decide +kernel
theorem dX5_find_109 : decode cX5_find 109 = .ok (.iinc 5 1, 3) := by decide +kernel
theorem dX5_find_112 : decode cX5_find 112 = .ok (.goto (-52), 3) := by decide +kernel
theorem dX5_find_115 : decode cX5_find 115 = .ok (.iinc 4 1, 3) := by decide +kernel
theorem dX5_find_118 : decode cX5_find 118 = .ok (.goto (-67), 3) := by decide +kernel
theorem dX5_find_121 : decode cX5_find 121 = .ok (.aload_n 0, 1) := by decide +kernel
theorem dX5_find_122 : decode cX5_find 122 = .ok (.getfield 26, 3) := by decide +kernel
theorem dX5_find_125 : decode cX5_find 125 = .ok (.ireturn, 1) := by decide +kernel
set_option maxRecDepth 20000 in
theorem ggX5_explain_X5_findTellers : GoodIn wsX5_explain wsX5_findTellers := goodIn_r _ [5, 6, 7, 8, 9, 10, 11, 12, 13, 14, 15, 16, 17, 18, 19, 20, 21, 22, 23, 24, 25, 26, 27, 28, 29, 30, 31, 32, 33, 34, 35, 36, 37, 38, 39, 40, 41, 42, 43, 44, 45, 46, 47, 48, 49, 50, 51, 52, 53, 54, 55, 56, 57, 58, 59, 60, 91, 92, 93, 94, 95, 96, 97, 98, 99, 100, 101, 102, 103, 104, 105, 106, 107, 108, 109, 110] (by decide +kernel) (by decide +kernel)
set_option maxRecDepth 20000 in
theorem gX5_explain_X5_findTellers : GoodIn wsX5_explain (wsV RX5 37 RX5 yX5_findTellers wsX5_findTellers) := goodIn_app (goodIn_of _ (by decide +kernel)) ggX5_explain_X5_findTellers
set_option maxRecDepth 20000 in
theorem ggX5_explain_X5_firstMisfit : GoodIn wsX5_explain wsX5_firstMisfit := goodIn_r _ [64, 8, 6, 28, 29, 30, 18, 31, 20, 21, 32, 33, 34, 25, 35, 36, 37, 38, 39, 40, 41, 65, 66, 67, 4, 68, 7, 15, 16, 17, 19, 22, 23, 24, 26, 27, 69, 70, 71, 72, 73, 74, 75, 76, 77, 78, 79, 80, 81, 82, 83, 84, 49, 50, 12, 51, 14, 42, 43, 44, 45, 46, 47, 48, 85, 86, 87, 88, 56, 89, 52, 53, 54, 55, 90, 91, 92, 93, 94, 95, 96, 98, 99, 100, 101, 102, 103, 104, 105, 106, 107, 97, 108, 109, 110] (by decide +kernel) (by decide +kernel)
set_option maxRecDepth 20000 in
theorem gX5_explain_X5_firstMisfit : GoodIn wsX5_explain (wsV RX5 56 RX5 yX5_firstMisfit wsX5_firstMisfit) := goodIn_app (goodIn_of _ (by decide +kernel)) ggX5_explain_X5_firstMisfit
theorem dX5_explain_0 : decode cX5_explain 0 = .ok (.aload_n 0, 1) := by decide +kernel
theorem dX5_explain_1 : decode cX5_explain 1 = .ok (.iconst (-1), 1) := by decide +kernel
theorem dX5_explain_2 : decode cX5_explain 2 = .ok (.invokevirtual 37, 3) := by decide +kernel
theorem dX5_explain_5 : decode cX5_explain 5 = .ok (.aload_n 0, 1) := by decide +kernel
theorem dX5_explain_6 : decode cX5_explain 6 = .ok (.iload_n 1, 1) := by decide +kernel
theorem dX5_explain_7 : decode cX5_explain 7 = .ok (.invokevirtual 56, 3) := by decide +kernel
theorem dX5_explain_10 : decode cX5_explain 10 = .ok (.ireturn, 1) := by decide +kernel
set_option maxRecDepth 20000 in
theorem ggX5_tellerOf_X3_at : GoodIn wsX5_tellerOf wsX3_at := goodIn_r _ [6, 7, 14] (by decide +kernel) (by decide +kernel)
set_option maxRecDepth 20000 in
theorem gX5_tellerOf_X3_at : GoodIn wsX5_tellerOf (wsV RX5 63 RX3 yX3_at wsX3_at) := goodIn_app (goodIn_of _ (by decide +kernel)) ggX5_tellerOf_X3_at
theorem dX5_tellerOf_0 : decode cX5_tellerOf 0 = .ok (.aload_n 0, 1) := by decide +kernel
theorem dX5_tellerOf_1 : decode cX5_tellerOf 1 = .ok (.getfield 23, 3) := by decide +kernel
theorem dX5_tellerOf_4 : decode cX5_tellerOf 4 = .ok (.iload_n 1, 1) := by decide +kernel
theorem dX5_tellerOf_5 : decode cX5_tellerOf 5 = .ok (.invokevirtual 63, 3) := by decide +kernel
theorem dX5_tellerOf_8 : decode cX5_tellerOf 8 = .ok (.ireturn, 1) := by decide +kernel
set_option maxRecDepth 20000 in
theorem ggX5_findTellers_X3_fill : GoodIn wsX5_findTellers wsX3_fill := goodIn_r _ [8, 9, 62] (by decide +kernel) (by decide +kernel)
set_option maxRecDepth 20000 in
theorem gX5_findTellers_X3_fill : GoodIn wsX5_findTellers (wsV RX5 66 RX3 yX3_fill wsX3_fill) := goodIn_app (goodIn_of _ (by decide +kernel)) ggX5_findTellers_X3_fill
set_option maxRecDepth 20000 in
theorem ggX5_findTellers_X6_exampleOf : GoodIn wsX5_findTellers wsX6_exampleOf := goodIn_r _ [14, 15, 16, 17, 18, 19, 20, 21, 22, 63, 64, 65, 66, 67, 68, 69, 70, 71, 72] (by decide +kernel) (by decide +kernel)
set_option maxRecDepth 20000 in
theorem gX5_findTellers_X6_exampleOf : GoodIn wsX5_findTellers (wsV RX5 69 RX6 yX6_exampleOf wsX6_exampleOf) := goodIn_app (goodIn_of _ (by decide +kernel)) ggX5_findTellers_X6_exampleOf
set_option maxRecDepth 20000 in
theorem ggX5_findTellers_X6_isAsked : GoodIn wsX5_findTellers wsX6_isAsked := goodIn_r _ [26, 15, 16, 27, 28, 29, 20, 30, 31, 32, 33, 34, 13, 35, 36, 63, 64, 65, 66, 67, 68, 69, 70, 71, 72] (by decide +kernel) (by decide +kernel)
set_option maxRecDepth 20000 in
theorem gX5_findTellers_X6_isAsked : GoodIn wsX5_findTellers (wsV RX5 73 RX6 yX6_isAsked wsX6_isAsked) := goodIn_app (goodIn_of _ (by decide +kernel)) ggX5_findTellers_X6_isAsked
set_option maxRecDepth 20000 in
theorem ggX5_findTellers_X1_kindAt : GoodIn wsX5_findTellers wsX1_kindAt := goodIn_r _ [41, 42, 43, 44, 45, 7, 46, 9, 73, 74, 75, 62] (by decide +kernel) (by decide +kernel)
set_option maxRecDepth 20000 in
theorem gX5_findTellers_X1_kindAt : GoodIn wsX5_findTellers (wsV RX5 77 RX1 yX1_kindAt wsX1_kindAt) := goodIn_app (goodIn_of _ (by decide +kernel)) ggX5_findTellers_X1_kindAt
set_option maxRecDepth 20000 in
theorem ggX5_findTellers_X1_firstAt : GoodIn wsX5_findTellers wsX1_firstAt := goodIn_r _ [50, 51, 43, 44, 45, 7, 46, 9, 73, 74, 75, 62] (by decide +kernel) (by decide +kernel)
set_option maxRecDepth 20000 in
theorem gX5_findTellers_X1_firstAt : GoodIn wsX5_findTellers (wsV RX5 82 RX1 yX1_firstAt wsX1_firstAt) := goodIn_app (goodIn_of _ (by decide +kernel)) ggX5_findTellers_X1_firstAt
set_option maxRecDepth 20000 in
theorem ggX5_findTellers_X3_set : GoodIn wsX5_findTellers wsX3_set := goodIn_r _ [55, 9, 62] (by decide +kernel) (by decide +kernel)
set_option maxRecDepth 20000 in
theorem gX5_findTellers_X3_set : GoodIn wsX5_findTellers (wsV RX5 60 RX3 yX3_set wsX3_set) := goodIn_app (goodIn_of _ (by decide +kernel)) ggX5_findTellers_X3_set
theorem dX5_findTellers_0 : decode cX5_findTellers 0 = .ok (.aload_n 0, 1) := by decide +kernel
theorem dX5_findTellers_1 : decode cX5_findTellers 1 = .ok (.iload_n 1, 1) := by decide +kernel
theorem dX5_findTellers_2 : decode cX5_findTellers 2 = .ok (.putfield 30, 3) := by decide +kernel
theorem dX5_findTellers_5 : decode cX5_findTellers 5 = .ok (.aload_n 0, 1) := by decide +kernel
theorem dX5_findTellers_6 : decode cX5_findTellers 6 = .ok (.getfield 23, 3) := by decide +kernel
theorem dX5_findTellers_9 : decode cX5_findTellers 9 = .ok (.iconst (-1), 1) := by decide +kernel
theorem dX5_findTellers_10 : decode cX5_findTellers 10 = .ok (.invokevirtual 66, 3) := by decide +kernel
theorem dX5_findTellers_13 : decode cX5_findTellers 13 = .ok (.bipush 7, 2) := by decide +kernel
theorem dX5_findTellers_15 : decode cX5_findTellers 15 = .ok (.istore_n 2, 1) := by decide +kernel
theorem dX5_findTellers_16 : decode cX5_findTellers 16 = .ok (.iload_n 2, 1) := by decide +kernel
theorem dX5_findTellers_17 : decode cX5_findTellers 17 = .ok (.ifCond .lt 79, 3) := by decide +kernel
theorem dX5_findTellers_20 : decode cX5_findTellers 20 = .ok (.aload_n 0, 1) := by decide +kernel
theorem dX5_findTellers_21 : decode cX5_findTellers 21 = .ok (.getfield 33, 3) := by decide +kernel
theorem dX5_findTellers_24 : decode cX5_findTellers 24 = .ok (.iload_n 2, 1) := by decide +kernel
theorem dX5_findTellers_25 : decode cX5_findTellers 25 = .ok (.invokevirtual 69, 3) := by decide +kernel
theorem dX5_findTellers_28 : decode cX5_findTellers 28 = .ok (.astore_n 3, 1) := by decide +kernel
theorem dX5_findTellers_29 : decode cX5_findTellers 29 = .ok (.iload_n 2, 1) := by decide +kernel
theorem dX5_findTellers_30 : decode cX5_findTellers 30 = .ok (.iconst 4, 1) := by decide +kernel
theorem dX5_findTellers_31 : decode cX5_findTellers 31 = .ok (.irem, 1) := by decide +kernel
theorem dX5_findTellers_32 : decode cX5_findTellers 32 = .ok (.istore 4, 2) := by decide +kernel
theorem dX5_findTellers_34 : decode cX5_findTellers 34 = .ok (.aload_n 0, 1) := by decide +kernel
theorem dX5_findTellers_35 : decode cX5_findTellers 35 = .ok (.getfield 33, 3) := by decide +kernel
theorem dX5_findTellers_38 : decode cX5_findTellers 38 = .ok (.iload_n 2, 1) := by decide +kernel
theorem dX5_findTellers_39 : decode cX5_findTellers 39 = .ok (.invokevirtual 73, 3) := by decide +kernel
theorem dX5_findTellers_42 : decode cX5_findTellers 42 = .ok (.ifCond .eq 15, 3) := by decide +kernel
theorem dX5_findTellers_45 : decode cX5_findTellers 45 = .ok (.iload_n 2, 1) := by decide +kernel
theorem dX5_findTellers_46 : decode cX5_findTellers 46 = .ok (.aload_n 0, 1) := by decide +kernel
theorem dX5_findTellers_47 : decode cX5_findTellers 47 = .ok (.getfield 30, 3) := by decide +kernel
theorem dX5_findTellers_50 : decode cX5_findTellers 50 = .ok (.if_icmp .eq 7, 3) := by decide +kernel
theorem dX5_findTellers_53 : decode cX5_findTellers 53 = .ok (.iconst 1, 1) := by decide +kernel
theorem dX5_findTellers_54 : decode cX5_findTellers 54 = .ok (.goto 4, 3) := by decide +kernel
theorem dX5_findTellers_57 : decode cX5_findTellers 57 = .ok (.iconst 0, 1) := by decide +kernel
theorem dX5_findTellers_58 : decode cX5_findTellers 58 = .ok (.istore 5, 2) := by decide +kernel
theorem dX5_findTellers_60 : decode cX5_findTellers 60 = .ok (.iload 5, 2) := by decide +kernel
theorem dX5_findTellers_62 : decode cX5_findTellers 62 = .ok (.ifCond .eq 28, 3) := by decide +kernel
theorem dX5_findTellers_65 : decode cX5_findTellers 65 = .ok (.aload_n 3, 1) := by decide +kernel
theorem dX5_findTellers_66 : decode cX5_findTellers 66 = .ok (.iload 4, 2) := by decide +kernel
theorem dX5_findTellers_68 : decode cX5_findTellers 68 = .ok (.invokevirtual 77, 3) := by decide +kernel
theorem dX5_findTellers_71 : decode cX5_findTellers 71 = .ok (.bipush 8, 2) := by decide +kernel
theorem dX5_findTellers_73 : decode cX5_findTellers 73 = .ok (.if_icmp .ne 17, 3) := by decide +kernel
theorem dX5_findTellers_76 : decode cX5_findTellers 76 = .ok (.aload_n 0, 1) := by decide +kernel
theorem dX5_findTellers_77 : decode cX5_findTellers 77 = .ok (.getfield 23, 3) := by decide +kernel
theorem dX5_findTellers_80 : decode cX5_findTellers 80 = .ok (.aload_n 3, 1) := by decide +kernel
theorem dX5_findTellers_81 : decode cX5_findTellers 81 = .ok (.iload 4, 2) := by decide +kernel
theorem dX5_findTellers_83 : decode cX5_findTellers 83 = .ok (.invokevirtual 82, 3) := by decide +kernel
theorem dX5_findTellers_86 : decode cX5_findTellers 86 = .ok (.iload_n 2, 1) := by decide +kernel
theorem dX5_findTellers_87 : decode cX5_findTellers 87 = .ok (.invokevirtual 60, 3) := by decide +kernel
theorem dX5_findTellers_90 : decode cX5_findTellers 90 = .ok (.iinc 2 (-1), 3) := by decide +kernel
theorem dX5_findTellers_93 : decode cX5_findTellers 93 = .ok (.goto (-77), 3) := by decide +kernel
theorem dX5_findTellers_96 : decode cX5_findTellers 96 = .ok (.return_, 1) := by decide +kernel
set_option maxRecDepth 20000 in
theorem ggX5_firstMisfit_X6_isAsked : GoodIn wsX5_firstMisfit wsX6_isAsked := goodIn_r _ [7, 8, 9, 10, 11, 12, 13, 14, 15, 16, 17, 18, 6, 19, 20, 81, 82, 83, 84, 85, 86, 87, 88, 89, 90] (by decide +kernel) (by decide +kernel)
set_option maxRecDepth 20000 in
theorem gX5_firstMisfit_X6_isAsked : GoodIn wsX5_firstMisfit (wsV RX5 73 RX6 yX6_isAsked wsX6_isAsked) := goodIn_app (goodIn_of _ (by decide +kernel)) ggX5_firstMisfit_X6_isAsked
set_option maxRecDepth 20000 in
theorem ggX5_firstMisfit_X5_isFitted : GoodIn wsX5_firstMisfit wsX5_isFitted := goodIn_r _ [25, 1, 26, 27, 28, 29, 6, 30, 8, 9, 31, 32, 33, 13, 34, 35, 36, 37, 38, 39, 40, 41, 42, 43, 44, 45, 46, 47, 48, 49, 50, 11, 12, 14, 15, 51, 52, 53, 54, 55, 56, 57, 58, 59, 60, 61, 62, 63, 64, 65, 66, 67, 68, 69, 70, 71, 72, 73, 74, 75, 76, 77, 78, 79, 80, 81, 82, 83, 84, 85, 86, 87, 88, 89, 90, 91, 92, 93, 94] (by decide +kernel) (by decide +kernel)
set_option maxRecDepth 20000 in
theorem gX5_firstMisfit_X5_isFitted : GoodIn wsX5_firstMisfit (wsV RX5 85 RX5 yX5_isFitted wsX5_isFitted) := goodIn_app (goodIn_of _ (by decide +kernel)) ggX5_firstMisfit_X5_isFitted
theorem dX5_firstMisfit_0 : decode cX5_firstMisfit 0 = .ok (.iconst 0, 1) := by decide +kernel
theorem dX5_firstMisfit_1 : decode cX5_firstMisfit 1 = .ok (.istore_n 2, 1) := by decide +kernel
theorem dX5_firstMisfit_2 : decode cX5_firstMisfit 2 = .ok (.iload_n 2, 1) := by decide +kernel
theorem dX5_firstMisfit_3 : decode cX5_firstMisfit 3 = .ok (.bipush 8, 2) := by decide +kernel
theorem dX5_firstMisfit_5 : decode cX5_firstMisfit 5 = .ok (.if_icmp .ge 39, 3) := by decide +kernel
theorem dX5_firstMisfit_8 : decode cX5_firstMisfit 8 = .ok (.aload_n 0, 1) := by decide +kernel
theorem dX5_firstMisfit_9 : decode cX5_firstMisfit 9 = .ok (.getfield 33, 3) := by decide +kernel
theorem dX5_firstMisfit_12 : decode cX5_firstMisfit 12 = .ok (.iload_n 2, 1) := by decide +kernel
theorem dX5_firstMisfit_13 : decode cX5_firstMisfit 13 = .ok (.invokevirtual 73, 3) := by decide +kernel
theorem dX5_firstMisfit_16 : decode cX5_firstMisfit 16 = .ok (.ifCond .eq 22, 3) := by decide +kernel
theorem dX5_firstMisfit_19 : decode cX5_firstMisfit 19 = .ok (.iload_n 2, 1) := by decide +kernel
theorem dX5_firstMisfit_20 : decode cX5_firstMisfit 20 = .ok (.aload_n 0, 1) := by decide +kernel
theorem dX5_firstMisfit_21 : decode cX5_firstMisfit 21 = .ok (.getfield 30, 3) := by decide +kernel
theorem dX5_firstMisfit_24 : decode cX5_firstMisfit 24 = .ok (.if_icmp .eq 14, 3) := by decide +kernel
theorem dX5_firstMisfit_27 : decode cX5_firstMisfit 27 = .ok (.aload_n 0, 1) := by decide +kernel
theorem dX5_firstMisfit_28 : decode cX5_firstMisfit 28 = .ok (.iload_n 2, 1) := by decide +kernel
theorem dX5_firstMisfit_29 : decode cX5_firstMisfit 29 = .ok (.iload_n 1, 1) := by decide +kernel
theorem dX5_firstMisfit_30 : decode cX5_firstMisfit 30 = .ok (.invokevirtual 85, 3) := by decide +kernel
theorem dX5_firstMisfit_33 : decode cX5_firstMisfit 33 = .ok (.ifCond .ne 5, 3) := by decide +kernel
theorem dX5_firstMisfit_36 : decode cX5_firstMisfit 36 = .ok (.iload_n 2, 1) := by decide +kernel
theorem dX5_firstMisfit_37 : decode cX5_firstMisfit 37 = .ok (.ireturn, 1) := by decide +kernel
theorem dX5_firstMisfit_38 : decode cX5_firstMisfit 38 = .ok (.iinc 2 1, 3) := by decide +kernel
theorem dX5_firstMisfit_41 : decode cX5_firstMisfit 41 = .ok (.goto (-39), 3) := by decide +kernel
theorem dX5_firstMisfit_44 : decode cX5_firstMisfit 44 = .ok (.iconst (-1), 1) := by decide +kernel
theorem dX5_firstMisfit_45 : decode cX5_firstMisfit 45 = .ok (.ireturn, 1) := by decide +kernel
set_option maxRecDepth 20000 in
theorem ggX5_isFitted_X6_exampleOf : GoodIn wsX5_isFitted wsX6_exampleOf := goodIn_r _ [7, 8, 9, 10, 11, 12, 13, 14, 15, 65, 66, 67, 68, 69, 70, 71, 72, 73, 74] (by decide +kernel) (by decide +kernel)
set_option maxRecDepth 20000 in
theorem gX5_isFitted_X6_exampleOf : GoodIn wsX5_isFitted (wsV RX5 69 RX6 yX6_exampleOf wsX6_exampleOf) := goodIn_app (goodIn_of _ (by decide +kernel)) ggX5_isFitted_X6_exampleOf
set_option maxRecDepth 20000 in
theorem ggX5_isFitted_X6_entry : GoodIn wsX5_isFitted wsX6_entry := goodIn_r _ [19, 8, 9, 20, 21, 22, 13, 23, 24, 25, 26, 27, 28, 29, 30, 31, 32, 33, 34, 35, 36, 37, 38, 39, 40, 65, 66, 67, 68, 69, 70, 71, 72, 73, 74, 75] (by decide +kernel) (by decide +kernel)
set_option maxRecDepth 20000 in
theorem gX5_isFitted_X6_entry : GoodIn wsX5_isFitted (wsV RX5 89 RX6 yX6_entry wsX6_entry) := goodIn_app (goodIn_of _ (by decide +kernel)) ggX5_isFitted_X6_entry
set_option maxRecDepth 20000 in
theorem ggX5_isFitted_X1_kindAt : GoodIn wsX5_isFitted wsX1_kindAt := goodIn_r _ [45, 46, 47, 36, 37, 38, 39, 40, 76, 77, 78, 75] (by decide +kernel) (by decide +kernel)
set_option maxRecDepth 20000 in
theorem gX5_isFitted_X1_kindAt : GoodIn wsX5_isFitted (wsV RX5 77 RX1 yX1_kindAt wsX1_kindAt) := goodIn_app (goodIn_of _ (by decide +kernel)) ggX5_isFitted_X1_kindAt
set_option maxRecDepth 20000 in
theorem ggX5_isFitted_X1_takesAlone : GoodIn wsX5_isFitted wsX1_takesAlone := goodIn_r _ [51, 46, 52, 53, 47, 36, 37, 38, 39, 40, 76, 77, 78, 75] (by decide +kernel) (by decide +kernel)
set_option maxRecDepth 20000 in
theorem gX5_isFitted_X1_takesAlone : GoodIn wsX5_isFitted (wsV RX5 93 RX1 yX1_takesAlone wsX1_takesAlone) := goodIn_app (goodIn_of _ (by decide +kernel)) ggX5_isFitted_X1_takesAlone
set_option maxRecDepth 20000 in
theorem ggX5_isFitted_X1_firstAt : GoodIn wsX5_isFitted wsX1_firstAt := goodIn_r _ [57, 52, 47, 36, 37, 38, 39, 40, 76, 77, 78, 75] (by decide +kernel) (by decide +kernel)
set_option maxRecDepth 20000 in
theorem gX5_isFitted_X1_firstAt : GoodIn wsX5_isFitted (wsV RX5 82 RX1 yX1_firstAt wsX1_firstAt) := goodIn_app (goodIn_of _ (by decide +kernel)) ggX5_isFitted_X1_firstAt
set_option maxRecDepth 20000 in
theorem ggX5_isFitted_X3_at : GoodIn wsX5_isFitted wsX3_at := goodIn_r _ [39, 40, 75] (by decide +kernel) (by decide +kernel)
set_option maxRecDepth 20000 in
theorem gX5_isFitted_X3_at : GoodIn wsX5_isFitted (wsV RX5 63 RX3 yX3_at wsX3_at) := goodIn_app (goodIn_of _ (by decide +kernel)) ggX5_isFitted_X3_at
theorem dX5_isFitted_0 : decode cX5_isFitted 0 = .ok (.aload_n 0, 1) := by decide +kernel
theorem dX5_isFitted_1 : decode cX5_isFitted 1 = .ok (.getfield 33, 3) := by decide +kernel
theorem dX5_isFitted_4 : decode cX5_isFitted 4 = .ok (.iload_n 1, 1) := by decide +kernel
theorem dX5_isFitted_5 : decode cX5_isFitted 5 = .ok (.invokevirtual 69, 3) := by decide +kernel
theorem dX5_isFitted_8 : decode cX5_isFitted 8 = .ok (.astore_n 3, 1) := by decide +kernel
theorem dX5_isFitted_9 : decode cX5_isFitted 9 = .ok (.iload_n 1, 1) := by decide +kernel
theorem dX5_isFitted_10 : decode cX5_isFitted 10 = .ok (.iconst 4, 1) := by decide +kernel
theorem dX5_isFitted_11 : decode cX5_isFitted 11 = .ok (.irem, 1) := by decide +kernel
theorem dX5_isFitted_12 : decode cX5_isFitted 12 = .ok (.istore 4, 2) := by decide +kernel
theorem dX5_isFitted_14 : decode cX5_isFitted 14 = .ok (.aload_n 0, 1) := by decide +kernel
theorem dX5_isFitted_15 : decode cX5_isFitted 15 = .ok (.getfield 33, 3) := by decide +kernel
theorem dX5_isFitted_18 : decode cX5_isFitted 18 = .ok (.iload_n 1, 1) := by decide +kernel
theorem dX5_isFitted_19 : decode cX5_isFitted 19 = .ok (.iload_n 2, 1) := by decide +kernel
theorem dX5_isFitted_20 : decode cX5_isFitted 20 = .ok (.invokevirtual 89, 3) := by decide +kernel
theorem dX5_isFitted_23 : decode cX5_isFitted 23 = .ok (.istore 5, 2) := by decide +kernel
theorem dX5_isFitted_25 : decode cX5_isFitted 25 = .ok (.aload_n 3, 1) := by decide +kernel
theorem dX5_isFitted_26 : decode cX5_isFitted 26 = .ok (.iload 4, 2) := by decide +kernel
theorem dX5_isFitted_28 : decode cX5_isFitted 28 = .ok (.invokevirtual 77, 3) := by decide +kernel
theorem dX5_isFitted_31 : decode cX5_isFitted 31 = .ok (.istore 6, 2) := by decide +kernel
theorem dX5_isFitted_33 : decode cX5_isFitted 33 = .ok (.iload 6, 2) := by decide +kernel
theorem dX5_isFitted_35 : decode cX5_isFitted 35 = .ok (.bipush 8, 2) := by decide +kernel
theorem dX5_isFitted_37 : decode cX5_isFitted 37 = .ok (.if_icmp .ge 12, 3) := by decide +kernel
theorem dX5_isFitted_40 : decode cX5_isFitted 40 = .ok (.aload_n 3, 1) := by decide +kernel
theorem dX5_isFitted_41 : decode cX5_isFitted 41 = .ok (.iload 4, 2) := by decide +kernel
theorem dX5_isFitted_43 : decode cX5_isFitted 43 = .ok (.iload 5, 2) := by decide +kernel
theorem dX5_isFitted_45 : decode cX5_isFitted 45 = .ok (.invokevirtual 93, 3) := by decide +kernel
theorem dX5_isFitted_48 : decode cX5_isFitted 48 = .ok (.ireturn, 1) := by decide +kernel
theorem dX5_isFitted_49 : decode cX5_isFitted 49 = .ok (.aload_n 0, 1) := by decide +kernel
theorem dX5_isFitted_50 : decode cX5_isFitted 50 = .ok (.getfield 33, 3) := by decide +kernel
theorem dX5_isFitted_53 : decode cX5_isFitted 53 = .ok (.aload_n 0, 1) := by decide +kernel
theorem dX5_isFitted_54 : decode cX5_isFitted 54 = .ok (.getfield 23, 3) := by decide +kernel
theorem dX5_isFitted_57 : decode cX5_isFitted 57 = .ok (.aload_n 3, 1) := by decide +kernel
theorem dX5_isFitted_58 : decode cX5_isFitted 58 = .ok (.iload 4, 2) := by decide +kernel
theorem dX5_isFitted_60 : decode cX5_isFitted 60 = .ok (.invokevirtual 82, 3) := by decide +kernel
theorem dX5_isFitted_63 : decode cX5_isFitted 63 = .ok (.invokevirtual 63, 3) := by decide +kernel
theorem dX5_isFitted_66 : decode cX5_isFitted 66 = .ok (.iload_n 2, 1) := by decide +kernel
theorem dX5_isFitted_67 : decode cX5_isFitted 67 = .ok (.invokevirtual 89, 3) := by decide +kernel
theorem dX5_isFitted_70 : decode cX5_isFitted 70 = .ok (.istore 7, 2) := by decide +kernel
theorem dX5_isFitted_72 : decode cX5_isFitted 72 = .ok (.iload 5, 2) := by decide +kernel
theorem dX5_isFitted_74 : decode cX5_isFitted 74 = .ok (.iconst (-1), 1) := by decide +kernel
theorem dX5_isFitted_75 : decode cX5_isFitted 75 = .ok (.if_icmp .eq 9, 3) := by decide +kernel
theorem dX5_isFitted_78 : decode cX5_isFitted 78 = .ok (.iload 7, 2) := by decide +kernel
theorem dX5_isFitted_80 : decode cX5_isFitted 80 = .ok (.iconst (-1), 1) := by decide +kernel
theorem dX5_isFitted_81 : decode cX5_isFitted 81 = .ok (.if_icmp .ne 5, 3) := by decide +kernel
theorem dX5_isFitted_84 : decode cX5_isFitted 84 = .ok (.iconst 0, 1) := by decide +kernel
theorem dX5_isFitted_85 : decode cX5_isFitted 85 = .ok (.ireturn, 1) := by decide +kernel
theorem dX5_isFitted_86 : decode cX5_isFitted 86 = .ok (.iload 6, 2) := by decide +kernel
theorem dX5_isFitted_88 : decode cX5_isFitted 88 = .ok (.bipush 8, 2) := by decide +kernel
theorem dX5_isFitted_90 : decode cX5_isFitted 90 = .ok (.if_icmp .ne 16, 3) := by decide +kernel
theorem dX5_isFitted_93 : decode cX5_isFitted 93 = .ok (.iload 5, 2) := by decide +kernel
theorem dX5_isFitted_95 : decode cX5_isFitted 95 = .ok (.iload 7, 2) := by decide +kernel
theorem dX5_isFitted_97 : decode cX5_isFitted 97 = .ok (.if_icmp .ne 7, 3) := by decide +kernel
theorem dX5_isFitted_100 : decode cX5_isFitted 100 = .ok (.iconst 1, 1) := by decide +kernel
theorem dX5_isFitted_101 : decode cX5_isFitted 101 = .ok (.goto 4, 3) := by decide +kernel
theorem dX5_isFitted_104 : decode cX5_isFitted 104 = .ok (.iconst 0, 1) := by decide +kernel
theorem dX5_isFitted_105 : decode cX5_isFitted 105 = .ok (.ireturn, 1) := by decide +kernel
theorem dX5_isFitted_106 : decode cX5_isFitted 106 = .ok (.iload 6, 2) := by decide +kernel
theorem dX5_isFitted_108 : decode cX5_isFitted 108 = .ok (.bipush 9, 2) := by decide +kernel
theorem dX5_isFitted_110 : decode cX5_isFitted 110 = .ok (.if_icmp .ne 18, 3) := by decide +kernel
theorem dX5_isFitted_113 : decode cX5_isFitted 113 = .ok (.iload 5, 2) := by decide +kernel
theorem dX5_isFitted_115 : decode cX5_isFitted 115 = .ok (.iload 7, 2) := by decide +kernel
theorem dX5_isFitted_117 : decode cX5_isFitted 117 = .ok (.if_icmp .ge 7, 3) := by decide +kernel
theorem dX5_isFitted_120 : decode cX5_isFitted 120 = .ok (.iconst 1, 1) := by decide +kernel
theorem dX5_isFitted_121 : decode cX5_isFitted 121 = .ok (.goto 19, 3) := by decide +kernel
theorem dX5_isFitted_124 : decode cX5_isFitted 124 = .ok (.iconst 0, 1) := by decide +kernel
theorem dX5_isFitted_125 : decode cX5_isFitted 125 = .ok (.goto 15, 3) := by decide +kernel
theorem dX5_isFitted_128 : decode cX5_isFitted 128 = .ok (.iload 5, 2) := by decide +kernel
theorem dX5_isFitted_130 : decode cX5_isFitted 130 = .ok (.iload 7, 2) := by decide +kernel
theorem dX5_isFitted_132 : decode cX5_isFitted 132 = .ok (.if_icmp .le 7, 3) := by decide +kernel
theorem dX5_isFitted_135 : decode cX5_isFitted 135 = .ok (.iconst 1, 1) := by decide +kernel
theorem dX5_isFitted_136 : decode cX5_isFitted 136 = .ok (.goto 4, 3) := by decide +kernel
theorem dX5_isFitted_139 : decode cX5_isFitted 139 = .ok (.iconst 0, 1) := by decide +kernel
theorem dX5_isFitted_140 : decode cX5_isFitted 140 = .ok (.ireturn, 1) := by decide +kernel
set_option maxRecDepth 20000 in
theorem ggX5_inOrder_X3_at : GoodIn wsX5_inOrder wsX3_at := goodIn_r _ [7, 8, 74] (by decide +kernel) (by decide +kernel)
set_option maxRecDepth 20000 in
theorem gX5_inOrder_X3_at : GoodIn wsX5_inOrder (wsV RX5 63 RX3 yX3_at wsX3_at) := goodIn_app (goodIn_of _ (by decide +kernel)) ggX5_inOrder_X3_at
set_option maxRecDepth 20000 in
theorem ggX5_inOrder_X5_isAhead : GoodIn wsX5_inOrder wsX5_isAhead := goodIn_r _ [13, 14, 15, 16, 12, 17, 18, 19, 20, 21, 22, 23, 24, 25, 4, 5, 6, 7, 8, 26, 27, 28, 29, 30, 31, 32, 33, 34, 35, 36, 37, 38, 39, 40, 41, 42, 43, 44, 45, 46, 47, 48, 49, 50, 51, 52, 53, 54, 55, 56, 57, 58, 59, 60, 61, 62, 63, 68, 69, 70, 71, 72, 73, 75, 76, 77, 78, 79, 80, 74, 81, 82, 83, 84] (by decide +kernel) (by decide +kernel)
set_option maxRecDepth 20000 in
theorem gX5_inOrder_X5_isAhead : GoodIn wsX5_inOrder (wsV RX5 96 RX5 yX5_isAhead wsX5_isAhead) := goodIn_app (goodIn_of _ (by decide +kernel)) ggX5_inOrder_X5_isAhead
set_option maxRecDepth 20000 in
theorem ggX5_inOrder_X3_set : GoodIn wsX5_inOrder wsX3_set := goodIn_r _ [67, 8, 74] (by decide +kernel) (by decide +kernel)
set_option maxRecDepth 20000 in
theorem gX5_inOrder_X3_set : GoodIn wsX5_inOrder (wsV RX5 60 RX3 yX3_set wsX3_set) := goodIn_app (goodIn_of _ (by decide +kernel)) ggX5_inOrder_X3_set
theorem dX5_inOrder_0 : decode cX5_inOrder 0 = .ok (.iconst 1, 1) := by decide +kernel
theorem dX5_inOrder_1 : decode cX5_inOrder 1 = .ok (.istore_n 2, 1) := by decide +kernel
theorem dX5_inOrder_2 : decode cX5_inOrder 2 = .ok (.iload_n 2, 1) := by decide +kernel
theorem dX5_inOrder_3 : decode cX5_inOrder 3 = .ok (.aload_n 0, 1) := by decide +kernel
theorem dX5_inOrder_4 : decode cX5_inOrder 4 = .ok (.getfield 26, 3) := by decide +kernel
theorem dX5_inOrder_7 : decode cX5_inOrder 7 = .ok (.if_icmp .ge 81, 3) := by decide +kernel
theorem dX5_inOrder_10 : decode cX5_inOrder 10 = .ok (.aload_n 0, 1) := by decide +kernel
theorem dX5_inOrder_11 : decode cX5_inOrder 11 = .ok (.getfield 14, 3) := by decide +kernel
theorem dX5_inOrder_14 : decode cX5_inOrder 14 = .ok (.iload_n 2, 1) := by decide +kernel
theorem dX5_inOrder_15 : decode cX5_inOrder 15 = .ok (.invokevirtual 63, 3) := by decide +kernel
theorem dX5_inOrder_18 : decode cX5_inOrder 18 = .ok (.istore_n 3, 1) := by decide +kernel
theorem dX5_inOrder_19 : decode cX5_inOrder 19 = .ok (.iload_n 2, 1) := by decide +kernel
theorem dX5_inOrder_20 : decode cX5_inOrder 20 = .ok (.istore 4, 2) := by decide +kernel
theorem dX5_inOrder_22 : decode cX5_inOrder 22 = .ok (.iload 4, 2) := by decide +kernel
theorem dX5_inOrder_24 : decode cX5_inOrder 24 = .ok (.ifCond .le 48, 3) := by decide +kernel
theorem dX5_inOrder_27 : decode cX5_inOrder 27 = .ok (.aload_n 0, 1) := by decide +kernel
theorem dX5_inOrder_28 : decode cX5_inOrder 28 = .ok (.iload_n 3, 1) := by decide +kernel
theorem dX5_inOrder_29 : decode cX5_inOrder 29 = .ok (.aload_n 0, 1) := by decide +kernel
theorem dX5_inOrder_30 : decode cX5_inOrder 30 = .ok (.getfield 14, 3) := by decide +kernel
theorem dX5_inOrder_33 : decode cX5_inOrder 33 = .ok (.iload 4, 2) := by decide +kernel
theorem dX5_inOrder_35 : decode cX5_inOrder 35 = .ok (.iconst 1, 1) := by decide +kernel
theorem dX5_inOrder_36 : decode cX5_inOrder 36 = .ok (.isub, 1) := by decide +kernel
theorem dX5_inOrder_37 : decode cX5_inOrder 37 = .ok (.invokevirtual 63, 3) := by decide +kernel
theorem dX5_inOrder_40 : decode cX5_inOrder 40 = .ok (.invokevirtual 96, 3) := by decide +kernel
theorem dX5_inOrder_43 : decode cX5_inOrder 43 = .ok (.ifCond .eq 29, 3) := by decide +kernel
theorem dX5_inOrder_46 : decode cX5_inOrder 46 = .ok (.aload_n 0, 1) := by decide +kernel
theorem dX5_inOrder_47 : decode cX5_inOrder 47 = .ok (.getfield 14, 3) := by decide +kernel
theorem dX5_inOrder_50 : decode cX5_inOrder 50 = .ok (.iload 4, 2) := by decide +kernel
theorem dX5_inOrder_52 : decode cX5_inOrder 52 = .ok (.aload_n 0, 1) := by decide +kernel
theorem dX5_inOrder_53 : decode cX5_inOrder 53 = .ok (.getfield 14, 3) := by decide +kernel
theorem dX5_inOrder_56 : decode cX5_inOrder 56 = .ok (.iload 4, 2) := by decide +kernel
theorem dX5_inOrder_58 : decode cX5_inOrder 58 = .ok (.iconst 1, 1) := by decide +kernel
theorem dX5_inOrder_59 : decode cX5_inOrder 59 = .ok (.isub, 1) := by decide +kernel
theorem dX5_inOrder_60 : decode cX5_inOrder 60 = .ok (.invokevirtual 63, 3) := by decide +kernel
theorem dX5_inOrder_63 : decode cX5_inOrder 63 = .ok (.invokevirtual 60, 3) := by decide +kernel
theorem dX5_inOrder_66 : decode cX5_inOrder 66 = .ok (.iinc 4 (-1), 3) := by decide +kernel
theorem dX5_inOrder_69 : decode cX5_inOrder 69 = .ok (.goto (-47), 3) := by decide +kernel
theorem dX5_inOrder_72 : decode cX5_inOrder 72 = .ok (.aload_n 0, 1) := by decide +kernel
theorem dX5_inOrder_73 : decode cX5_inOrder 73 = .ok (.getfield 14, 3) := by decide +kernel
theorem dX5_inOrder_76 : decode cX5_inOrder 76 = .ok (.iload 4, 2) := by decide +kernel
theorem dX5_inOrder_78 : decode cX5_inOrder 78 = .ok (.iload_n 3, 1) := by decide +kernel
theorem dX5_inOrder_79 : decode cX5_inOrder 79 = .ok (.invokevirtual 60, 3) := by decide +kernel
theorem dX5_inOrder_82 : decode cX5_inOrder 82 = .ok (.iinc 2 1, 3) := by decide +kernel
theorem dX5_inOrder_85 : decode cX5_inOrder 85 = .ok (.goto (-83), 3) := by decide +kernel
theorem dX5_inOrder_88 : decode cX5_inOrder 88 = .ok (.aload_n 0, 1) := by decide +kernel
theorem dX5_inOrder_89 : decode cX5_inOrder 89 = .ok (.getfield 14, 3) := by decide +kernel
theorem dX5_inOrder_92 : decode cX5_inOrder 92 = .ok (.iload_n 1, 1) := by decide +kernel
theorem dX5_inOrder_93 : decode cX5_inOrder 93 = .ok (.invokevirtual 63, 3) := by decide +kernel
theorem dX5_inOrder_96 : decode cX5_inOrder 96 = .ok (.ireturn, 1) := by decide +kernel
set_option maxRecDepth 20000 in
theorem ggX5_isAhead_X5_compareBy : GoodIn wsX5_isAhead wsX5_compareBy := goodIn_r _ [5, 6, 7, 8, 9, 10, 11, 12, 13, 14, 15, 16, 17, 18, 19, 20, 21, 22, 23, 24, 25, 26, 27, 28, 29, 30, 31, 32, 33, 34, 35, 36, 37, 38, 39, 40, 41, 42, 43, 44, 45, 46, 47, 48, 49, 50, 51, 52, 53, 54, 55, 56, 57, 58, 59, 60, 61, 62, 63, 64, 65, 66, 67, 68, 69, 70, 71, 72, 73] (by decide +kernel) (by decide +kernel)
set_option maxRecDepth 20000 in
theorem gX5_isAhead_X5_compareBy : GoodIn wsX5_isAhead (wsV RX5 99 RX5 yX5_compareBy wsX5_compareBy) := goodIn_app (goodIn_of _ (by decide +kernel)) ggX5_isAhead_X5_compareBy
theorem dX5_isAhead_0 : decode cX5_isAhead 0 = .ok (.aload_n 0, 1) := by decide +kernel
theorem dX5_isAhead_1 : decode cX5_isAhead 1 = .ok (.iconst 0, 1) := by decide +kernel
theorem dX5_isAhead_2 : decode cX5_isAhead 2 = .ok (.iload_n 1, 1) := by decide +kernel
theorem dX5_isAhead_3 : decode cX5_isAhead 3 = .ok (.iload_n 2, 1) := by decide +kernel
theorem dX5_isAhead_4 : decode cX5_isAhead 4 = .ok (.invokevirtual 99, 3) := by decide +kernel
theorem dX5_isAhead_7 : decode cX5_isAhead 7 = .ok (.istore_n 3, 1) := by decide +kernel
theorem dX5_isAhead_8 : decode cX5_isAhead 8 = .ok (.iload_n 3, 1) := by decide +kernel
theorem dX5_isAhead_9 : decode cX5_isAhead 9 = .ok (.ifCond .ne 11, 3) := by decide +kernel
theorem dX5_isAhead_12 : decode cX5_isAhead 12 = .ok (.aload_n 0, 1) := by decide +kernel
theorem dX5_isAhead_13 : decode cX5_isAhead 13 = .ok (.iconst 1, 1) := by decide +kernel
theorem dX5_isAhead_14 : decode cX5_isAhead 14 = .ok (.iload_n 1, 1) := by decide +kernel
theorem dX5_isAhead_15 : decode cX5_isAhead 15 = .ok (.iload_n 2, 1) := by decide +kernel
theorem dX5_isAhead_16 : decode cX5_isAhead 16 = .ok (.invokevirtual 99, 3) := by decide +kernel
theorem dX5_isAhead_19 : decode cX5_isAhead 19 = .ok (.istore_n 3, 1) := by decide +kernel
theorem dX5_isAhead_20 : decode cX5_isAhead 20 = .ok (.iload_n 3, 1) := by decide +kernel
theorem dX5_isAhead_21 : decode cX5_isAhead 21 = .ok (.ifCond .ge 7, 3) := by decide +kernel
theorem dX5_isAhead_24 : decode cX5_isAhead 24 = .ok (.iconst 1, 1) := by decide +kernel
theorem dX5_isAhead_25 : decode cX5_isAhead 25 = .ok (.goto 4, 3) := by decide +kernel
theorem dX5_isAhead_28 : decode cX5_isAhead 28 = .ok (.iconst 0, 1) := by decide +kernel
theorem dX5_isAhead_29 : decode cX5_isAhead 29 = .ok (.ireturn, 1) := by decide +kernel
set_option maxRecDepth 20000 in
theorem ggX5_compareBy_X6_orderColumn : GoodIn wsX5_compareBy wsX6_orderColumn := goodIn_r _ [6, 7, 8, 9, 10, 11, 12, 13, 58, 59, 60, 61, 62, 63, 64] (by decide +kernel) (by decide +kernel)
set_option maxRecDepth 20000 in
theorem gX5_compareBy_X6_orderColumn : GoodIn wsX5_compareBy (wsV RX5 103 RX6 yX6_orderColumn wsX6_orderColumn) := goodIn_app (goodIn_of _ (by decide +kernel)) ggX5_compareBy_X6_orderColumn
set_option maxRecDepth 20000 in
theorem ggX5_compareBy_X6_isAsked : GoodIn wsX5_compareBy wsX6_isAsked := goodIn_r _ [17, 18, 19, 20, 21, 22, 23, 24, 25, 26, 27, 28, 5, 29, 30, 58, 59, 60, 61, 62, 63, 65, 66, 67, 68] (by decide +kernel) (by decide +kernel)
set_option maxRecDepth 20000 in
theorem gX5_compareBy_X6_isAsked : GoodIn wsX5_compareBy (wsV RX5 73 RX6 yX6_isAsked wsX6_isAsked) := goodIn_app (goodIn_of _ (by decide +kernel)) ggX5_compareBy_X6_isAsked
set_option maxRecDepth 20000 in
theorem ggX5_compareBy_X6_entry : GoodIn wsX5_compareBy wsX6_entry := goodIn_r _ [34, 18, 19, 35, 36, 37, 23, 38, 39, 40, 41, 42, 43, 44, 45, 21, 22, 24, 25, 46, 9, 10, 11, 12, 13, 58, 59, 60, 61, 62, 63, 65, 66, 67, 68, 64] (by decide +kernel) (by decide +kernel)
set_option maxRecDepth 20000 in
theorem gX5_compareBy_X6_entry : GoodIn wsX5_compareBy (wsV RX5 89 RX6 yX6_entry wsX6_entry) := goodIn_app (goodIn_of _ (by decide +kernel)) ggX5_compareBy_X6_entry
set_option maxRecDepth 20000 in
theorem ggX5_compareBy_X6_isDownwards : GoodIn wsX5_compareBy wsX6_isDownwards := goodIn_r _ [50, 51, 8, 9, 10, 11, 12, 13, 58, 59, 60, 61, 62, 63, 64] (by decide +kernel) (by decide +kernel)
set_option maxRecDepth 20000 in
theorem gX5_compareBy_X6_isDownwards : GoodIn wsX5_compareBy (wsV RX5 106 RX6 yX6_isDownwards wsX6_isDownwards) := goodIn_app (goodIn_of _ (by decide +kernel)) ggX5_compareBy_X6_isDownwards
theorem dX5_compareBy_0 : decode cX5_compareBy 0 = .ok (.aload_n 0, 1) := by decide +kernel
theorem dX5_compareBy_1 : decode cX5_compareBy 1 = .ok (.getfield 33, 3) := by decide +kernel
theorem dX5_compareBy_4 : decode cX5_compareBy 4 = .ok (.iload_n 1, 1) := by decide +kernel
theorem dX5_compareBy_5 : decode cX5_compareBy 5 = .ok (.invokevirtual 103, 3) := by decide +kernel
theorem dX5_compareBy_8 : decode cX5_compareBy 8 = .ok (.istore 4, 2) := by decide +kernel
theorem dX5_compareBy_10 : decode cX5_compareBy 10 = .ok (.aload_n 0, 1) := by decide +kernel
theorem dX5_compareBy_11 : decode cX5_compareBy 11 = .ok (.getfield 33, 3) := by decide +kernel
theorem dX5_compareBy_14 : decode cX5_compareBy 14 = .ok (.iload 4, 2) := by decide +kernel
theorem dX5_compareBy_16 : decode cX5_compareBy 16 = .ok (.invokevirtual 73, 3) := by decide +kernel
theorem dX5_compareBy_19 : decode cX5_compareBy 19 = .ok (.ifCond .ne 5, 3) := by decide +kernel
theorem dX5_compareBy_22 : decode cX5_compareBy 22 = .ok (.iconst 0, 1) := by decide +kernel
theorem dX5_compareBy_23 : decode cX5_compareBy 23 = .ok (.ireturn, 1) := by decide +kernel
theorem dX5_compareBy_24 : decode cX5_compareBy 24 = .ok (.aload_n 0, 1) := by decide +kernel
theorem dX5_compareBy_25 : decode cX5_compareBy 25 = .ok (.getfield 33, 3) := by decide +kernel
theorem dX5_compareBy_28 : decode cX5_compareBy 28 = .ok (.iload 4, 2) := by decide +kernel
theorem dX5_compareBy_30 : decode cX5_compareBy 30 = .ok (.iload_n 2, 1) := by decide +kernel
theorem dX5_compareBy_31 : decode cX5_compareBy 31 = .ok (.invokevirtual 89, 3) := by decide +kernel
theorem dX5_compareBy_34 : decode cX5_compareBy 34 = .ok (.aload_n 0, 1) := by decide +kernel
theorem dX5_compareBy_35 : decode cX5_compareBy 35 = .ok (.getfield 33, 3) := by decide +kernel
theorem dX5_compareBy_38 : decode cX5_compareBy 38 = .ok (.iload 4, 2) := by decide +kernel
theorem dX5_compareBy_40 : decode cX5_compareBy 40 = .ok (.iload_n 3, 1) := by decide +kernel
theorem dX5_compareBy_41 : decode cX5_compareBy 41 = .ok (.invokevirtual 89, 3) := by decide +kernel
theorem dX5_compareBy_44 : decode cX5_compareBy 44 = .ok (.isub, 1) := by decide +kernel
theorem dX5_compareBy_45 : decode cX5_compareBy 45 = .ok (.istore 5, 2) := by decide +kernel
theorem dX5_compareBy_47 : decode cX5_compareBy 47 = .ok (.aload_n 0, 1) := by decide +kernel
theorem dX5_compareBy_48 : decode cX5_compareBy 48 = .ok (.getfield 33, 3) := by decide +kernel
theorem dX5_compareBy_51 : decode cX5_compareBy 51 = .ok (.iload_n 1, 1) := by decide +kernel
theorem dX5_compareBy_52 : decode cX5_compareBy 52 = .ok (.invokevirtual 106, 3) := by decide +kernel
theorem dX5_compareBy_55 : decode cX5_compareBy 55 = .ok (.ifCond .eq 9, 3) := by decide +kernel
theorem dX5_compareBy_58 : decode cX5_compareBy 58 = .ok (.iload 5, 2) := by decide +kernel
theorem dX5_compareBy_60 : decode cX5_compareBy 60 = .ok (.ineg, 1) := by decide +kernel
theorem dX5_compareBy_61 : decode cX5_compareBy 61 = .ok (.goto 5, 3) := by decide +kernel
theorem dX5_compareBy_64 : decode cX5_compareBy 64 = .ok (.iload 5, 2) := by decide +kernel
theorem dX5_compareBy_66 : decode cX5_compareBy 66 = .ok (.ireturn, 1) := by decide +kernel
set_option maxRecDepth 20000 in
theorem ggX5_markNew_X3_at : GoodIn wsX5_markNew wsX3_at := goodIn_r _ [6, 7, 18] (by decide +kernel) (by decide +kernel)
set_option maxRecDepth 20000 in
theorem gX5_markNew_X3_at : GoodIn wsX5_markNew (wsV RX5 63 RX3 yX3_at wsX3_at) := goodIn_app (goodIn_of _ (by decide +kernel)) ggX5_markNew_X3_at
set_option maxRecDepth 20000 in
theorem ggX5_markNew_X3_set : GoodIn wsX5_markNew wsX3_set := goodIn_r _ [11, 7, 18] (by decide +kernel) (by decide +kernel)
set_option maxRecDepth 20000 in
theorem gX5_markNew_X3_set : GoodIn wsX5_markNew (wsV RX5 60 RX3 yX3_set wsX3_set) := goodIn_app (goodIn_of _ (by decide +kernel)) ggX5_markNew_X3_set
theorem dX5_markNew_0 : decode cX5_markNew 0 = .ok (.aload_n 0, 1) := by decide +kernel
theorem dX5_markNew_1 : decode cX5_markNew 1 = .ok (.getfield 20, 3) := by decide +kernel
theorem dX5_markNew_4 : decode cX5_markNew 4 = .ok (.iload_n 1, 1) := by decide +kernel
theorem dX5_markNew_5 : decode cX5_markNew 5 = .ok (.invokevirtual 63, 3) := by decide +kernel
theorem dX5_markNew_8 : decode cX5_markNew 8 = .ok (.ifCond .ne 7, 3) := by decide +kernel
theorem dX5_markNew_11 : decode cX5_markNew 11 = .ok (.iconst 1, 1) := by decide +kernel
theorem dX5_markNew_12 : decode cX5_markNew 12 = .ok (.goto 4, 3) := by decide +kernel
theorem dX5_markNew_15 : decode cX5_markNew 15 = .ok (.iconst 0, 1) := by decide +kernel
theorem dX5_markNew_16 : decode cX5_markNew 16 = .ok (.istore_n 2, 1) := by decide +kernel
theorem dX5_markNew_17 : decode cX5_markNew 17 = .ok (.aload_n 0, 1) := by decide +kernel
theorem dX5_markNew_18 : decode cX5_markNew 18 = .ok (.getfield 20, 3) := by decide +kernel
theorem dX5_markNew_21 : decode cX5_markNew 21 = .ok (.iload_n 1, 1) := by decide +kernel
theorem dX5_markNew_22 : decode cX5_markNew 22 = .ok (.iconst 1, 1) := by decide +kernel
theorem dX5_markNew_23 : decode cX5_markNew 23 = .ok (.invokevirtual 60, 3) := by decide +kernel
theorem dX5_markNew_26 : decode cX5_markNew 26 = .ok (.iload_n 2, 1) := by decide +kernel
theorem dX5_markNew_27 : decode cX5_markNew 27 = .ok (.ireturn, 1) := by decide +kernel
set_option maxRecDepth 20000 in
theorem ggX5_countUnlike_X5_find : GoodIn wsX5_countUnlike wsX5_find := goodIn_r _ [8, 2, 9, 3, 10, 11, 12, 7, 13, 14, 15, 16, 17, 18, 19, 20, 21, 22, 23, 24, 25, 26, 27, 28, 29, 30, 31, 32, 33, 34, 35, 36, 37, 38, 39, 40, 41, 42, 43, 44, 45, 46, 47, 48, 49, 50, 51, 52, 53, 54, 55, 56, 57, 58, 59, 60, 61, 62, 63, 64, 65, 66, 67, 68, 69, 70, 71, 72, 73, 74, 75, 76, 77, 78, 79, 80, 81, 82, 83, 84, 85, 86, 87, 88, 89, 90, 91, 92, 93, 94, 95, 96, 97, 98, 99, 100, 101, 102, 103, 104, 105, 106, 126, 127, 128, 129, 130, 131, 132, 133, 134, 135, 136, 137, 138, 139, 140, 141, 142, 143, 144, 145] (by decide +kernel) (by decide +kernel)
set_option maxRecDepth 20000 in
theorem gX5_countUnlike_X5_find : GoodIn wsX5_countUnlike (wsV RX5 109 RX5 yX5_find wsX5_find) := goodIn_app (goodIn_of _ (by decide +kernel)) ggX5_countUnlike_X5_find
set_option maxRecDepth 20000 in
theorem ggX5_countUnlike_X3_fill : GoodIn wsX5_countUnlike wsX3_fill := goodIn_r _ [20, 21, 132] (by decide +kernel) (by decide +kernel)
set_option maxRecDepth 20000 in
theorem gX5_countUnlike_X3_fill : GoodIn wsX5_countUnlike (wsV RX5 66 RX3 yX3_fill wsX3_fill) := goodIn_app (goodIn_of _ (by decide +kernel)) ggX5_countUnlike_X3_fill
set_option maxRecDepth 20000 in
theorem ggX5_countUnlike_X3_at : GoodIn wsX5_countUnlike wsX3_at := goodIn_r _ [58, 21, 132] (by decide +kernel) (by decide +kernel)
set_option maxRecDepth 20000 in
theorem gX5_countUnlike_X3_at : GoodIn wsX5_countUnlike (wsV RX5 63 RX3 yX3_at wsX3_at) := goodIn_app (goodIn_of _ (by decide +kernel)) ggX5_countUnlike_X3_at
set_option maxRecDepth 20000 in
theorem ggX5_countUnlike_X5_firstAlike : GoodIn wsX5_countUnlike wsX5_firstAlike := goodIn_r _ [110, 111, 112, 113, 7, 114, 9, 68, 69, 70, 25, 71, 27, 28, 115, 91, 92, 32, 93, 94, 95, 96, 97, 98, 76, 99, 40, 41, 42, 43, 100, 56, 57, 19, 58, 21, 116, 117, 118, 119, 120, 121, 36, 37, 38, 39, 44, 45, 46, 47, 48, 126, 127, 128, 129, 130, 131, 133, 134, 135, 136, 137, 138, 139, 140, 141, 142, 132] (by decide +kernel) (by decide +kernel)
set_option maxRecDepth 20000 in
theorem gX5_countUnlike_X5_firstAlike : GoodIn wsX5_countUnlike (wsV RX5 123 RX5 yX5_firstAlike wsX5_firstAlike) := goodIn_app (goodIn_of _ (by decide +kernel)) ggX5_countUnlike_X5_firstAlike
set_option maxRecDepth 20000 in
theorem ggX5_countUnlike_X5_markNew : GoodIn wsX5_countUnlike wsX5_markNew := goodIn_r _ [125, 1, 106, 56, 57, 19, 58, 21, 64, 65, 66, 67, 126, 127, 128, 129, 130, 131, 132] (by decide +kernel) (by decide +kernel)
set_option maxRecDepth 20000 in
theorem gX5_countUnlike_X5_markNew : GoodIn wsX5_countUnlike (wsV RX5 120 RX5 yX5_markNew wsX5_markNew) := goodIn_app (goodIn_of _ (by decide +kernel)) ggX5_countUnlike_X5_markNew
theorem dX5_countUnlike_0 : decode cX5_countUnlike 0 = .ok (.aload_n 0, 1) := by decide +kernel
theorem dX5_countUnlike_1 : decode cX5_countUnlike 1 = .ok (.iconst (-1), 1) := by decide +kernel
theorem dX5_countUnlike_2 : decode cX5_countUnlike 2 = .ok (.invokevirtual 109, 3) := by decide +kernel
theorem dX5_countUnlike_5 : decode cX5_countUnlike 5 = .ok (.pop, 1) := by decide +kernel
theorem dX5_countUnlike_6 : decode cX5_countUnlike 6 = .ok (.aload_n 0, 1) := by decide +kernel
theorem dX5_countUnlike_7 : decode cX5_countUnlike 7 = .ok (.getfield 20, 3) := by decide +kernel
theorem dX5_countUnlike_10 : decode cX5_countUnlike 10 = .ok (.iconst 0, 1) := by decide +kernel
theorem dX5_countUnlike_11 : decode cX5_countUnlike 11 = .ok (.invokevirtual 66, 3) := by decide +kernel
theorem dX5_countUnlike_14 : decode cX5_countUnlike 14 = .ok (.iconst 0, 1) := by decide +kernel
theorem dX5_countUnlike_15 : decode cX5_countUnlike 15 = .ok (.istore_n 1, 1) := by decide +kernel
theorem dX5_countUnlike_16 : decode cX5_countUnlike 16 = .ok (.iconst 0, 1) := by decide +kernel
theorem dX5_countUnlike_17 : decode cX5_countUnlike 17 = .ok (.istore_n 2, 1) := by decide +kernel
theorem dX5_countUnlike_18 : decode cX5_countUnlike 18 = .ok (.iload_n 2, 1) := by decide +kernel
theorem dX5_countUnlike_19 : decode cX5_countUnlike 19 = .ok (.aload_n 0, 1) := by decide +kernel
theorem dX5_countUnlike_20 : decode cX5_countUnlike 20 = .ok (.getfield 26, 3) := by decide +kernel
theorem dX5_countUnlike_23 : decode cX5_countUnlike 23 = .ok (.if_icmp .ge 55, 3) := by decide +kernel
theorem dX5_countUnlike_26 : decode cX5_countUnlike 26 = .ok (.aload_n 0, 1) := by decide +kernel
theorem dX5_countUnlike_27 : decode cX5_countUnlike 27 = .ok (.getfield 14, 3) := by decide +kernel
theorem dX5_countUnlike_30 : decode cX5_countUnlike 30 = .ok (.iload_n 2, 1) := by decide +kernel
theorem dX5_countUnlike_31 : decode cX5_countUnlike 31 = .ok (.invokevirtual 63, 3) := by decide +kernel
theorem dX5_countUnlike_34 : decode cX5_countUnlike 34 = .ok (.istore_n 3, 1) := by decide +kernel
theorem dX5_countUnlike_35 : decode cX5_countUnlike 35 = .ok (.aload_n 0, 1) := by decide +kernel
theorem dX5_countUnlike_36 : decode cX5_countUnlike 36 = .ok (.iconst 0, 1) := by decide +kernel
theorem dX5_countUnlike_37 : decode cX5_countUnlike 37 = .ok (.iload_n 3, 1) := by decide +kernel
theorem dX5_countUnlike_38 : decode cX5_countUnlike 38 = .ok (.bipush 12, 2) := by decide +kernel
theorem dX5_countUnlike_40 : decode cX5_countUnlike 40 = .ok (.idiv, 1) := by decide +kernel
theorem dX5_countUnlike_41 : decode cX5_countUnlike 41 = .ok (.invokevirtual 123, 3) := by decide +kernel
theorem dX5_countUnlike_44 : decode cX5_countUnlike 44 = .ok (.istore 4, 2) := by decide +kernel
theorem dX5_countUnlike_46 : decode cX5_countUnlike 46 = .ok (.aload_n 0, 1) := by decide +kernel
theorem dX5_countUnlike_47 : decode cX5_countUnlike 47 = .ok (.iconst 1, 1) := by decide +kernel
theorem dX5_countUnlike_48 : decode cX5_countUnlike 48 = .ok (.iload_n 3, 1) := by decide +kernel
theorem dX5_countUnlike_49 : decode cX5_countUnlike 49 = .ok (.bipush 12, 2) := by decide +kernel
theorem dX5_countUnlike_51 : decode cX5_countUnlike 51 = .ok (.irem, 1) := by decide +kernel
theorem dX5_countUnlike_52 : decode cX5_countUnlike 52 = .ok (.invokevirtual 123, 3) := by decide +kernel
theorem dX5_countUnlike_55 : decode cX5_countUnlike 55 = .ok (.istore 5, 2) := by decide +kernel
theorem dX5_countUnlike_57 : decode cX5_countUnlike 57 = .ok (.iload_n 1, 1) := by decide +kernel
theorem dX5_countUnlike_58 : decode cX5_countUnlike 58 = .ok (.aload_n 0, 1) := by decide +kernel
theorem dX5_countUnlike_59 : decode cX5_countUnlike 59 = .ok (.iload 4, 2) := by decide +kernel
theorem dX5_countUnlike_61 : decode cX5_countUnlike 61 = .ok (.bipush 12, 2) := by decide +kernel
theorem dX5_countUnlike_63 : decode cX5_countUnlike 63 = .ok (.imul, 1) := by decide +kernel
theorem dX5_countUnlike_64 : decode cX5_countUnlike 64 = .ok (.iload 5, 2) := by decide +kernel
theorem dX5_countUnlike_66 : decode cX5_countUnlike 66 = .ok (.iadd, 1) := by decide +kernel
theorem dX5_countUnlike_67 : decode cX5_countUnlike 67 = .ok (.invokevirtual 120, 3) := by decide +kernel
theorem dX5_countUnlike_70 : decode cX5_countUnlike 70 = .ok (.iadd, 1) := by decide +kernel
theorem dX5_countUnlike_71 : decode cX5_countUnlike 71 = .ok (.istore_n 1, 1) := by decide +kernel
theorem dX5_countUnlike_72 : decode cX5_countUnlike 72 = .ok (.iinc 2 1, 3) := by decide +kernel
theorem dX5_countUnlike_75 : decode cX5_countUnlike 75 = .ok (.goto (-57), 3) := by decide +kernel
theorem dX5_countUnlike_78 : decode cX5_countUnlike 78 = .ok (.iload_n 1, 1) := by decide +kernel
theorem dX5_countUnlike_79 : decode cX5_countUnlike 79 = .ok (.ireturn, 1) := by decide +kernel
set_option maxRecDepth 20000 in
theorem ggX5_firstAlike_X5_isAlike : GoodIn wsX5_firstAlike wsX5_isAlike := goodIn_r _ [5, 6, 7, 8, 9, 10, 11, 12, 13, 14, 15, 16, 17, 18, 19, 20, 21, 22, 23, 24, 25, 26, 27, 28, 29, 30, 31, 32, 33, 34, 35, 36, 37, 38, 39, 40, 41, 42, 43, 44, 45, 46, 47, 48, 49, 50, 51, 52, 53, 54, 55, 56, 57, 58, 59, 60, 61, 62, 63, 64, 65, 66, 67] (by decide +kernel) (by decide +kernel)
set_option maxRecDepth 20000 in
theorem gX5_firstAlike_X5_isAlike : GoodIn wsX5_firstAlike (wsV RX5 126 RX5 yX5_isAlike wsX5_isAlike) := goodIn_app (goodIn_of _ (by decide +kernel)) ggX5_firstAlike_X5_isAlike
theorem dX5_firstAlike_0 : decode cX5_firstAlike 0 = .ok (.iconst 0, 1) := by decide +kernel
theorem dX5_firstAlike_1 : decode cX5_firstAlike 1 = .ok (.istore_n 3, 1) := by decide +kernel
theorem dX5_firstAlike_2 : decode cX5_firstAlike 2 = .ok (.iload_n 3, 1) := by decide +kernel
theorem dX5_firstAlike_3 : decode cX5_firstAlike 3 = .ok (.iload_n 2, 1) := by decide +kernel
theorem dX5_firstAlike_4 : decode cX5_firstAlike 4 = .ok (.if_icmp .ge 21, 3) := by decide +kernel
theorem dX5_firstAlike_7 : decode cX5_firstAlike 7 = .ok (.aload_n 0, 1) := by decide +kernel
theorem dX5_firstAlike_8 : decode cX5_firstAlike 8 = .ok (.iload_n 1, 1) := by decide +kernel
theorem dX5_firstAlike_9 : decode cX5_firstAlike 9 = .ok (.iload_n 3, 1) := by decide +kernel
theorem dX5_firstAlike_10 : decode cX5_firstAlike 10 = .ok (.iload_n 2, 1) := by decide +kernel
theorem dX5_firstAlike_11 : decode cX5_firstAlike 11 = .ok (.invokevirtual 126, 3) := by decide +kernel
theorem dX5_firstAlike_14 : decode cX5_firstAlike 14 = .ok (.ifCond .eq 5, 3) := by decide +kernel
theorem dX5_firstAlike_17 : decode cX5_firstAlike 17 = .ok (.iload_n 3, 1) := by decide +kernel
theorem dX5_firstAlike_18 : decode cX5_firstAlike 18 = .ok (.ireturn, 1) := by decide +kernel
theorem dX5_firstAlike_19 : decode cX5_firstAlike 19 = .ok (.iinc 3 1, 3) := by decide +kernel
theorem dX5_firstAlike_22 : decode cX5_firstAlike 22 = .ok (.goto (-20), 3) := by decide +kernel
theorem dX5_firstAlike_25 : decode cX5_firstAlike 25 = .ok (.iload_n 2, 1) := by decide +kernel
theorem dX5_firstAlike_26 : decode cX5_firstAlike 26 = .ok (.ireturn, 1) := by decide +kernel
set_option maxRecDepth 20000 in
theorem ggX5_isAlike_X6_drawer : GoodIn wsX5_isAlike wsX6_drawer := goodIn_r _ [6, 7, 8, 52, 53, 54, 55, 56, 57] (by decide +kernel) (by decide +kernel)
set_option maxRecDepth 20000 in
theorem gX5_isAlike_X6_drawer : GoodIn wsX5_isAlike (wsV RX5 41 RX6 yX6_drawer wsX6_drawer) := goodIn_app (goodIn_of _ (by decide +kernel)) ggX5_isAlike_X6_drawer
set_option maxRecDepth 20000 in
theorem ggX5_isAlike_X0_entry : GoodIn wsX5_isAlike wsX0_entry := goodIn_r _ [13, 14, 15, 16, 17, 12, 18, 19, 20, 21, 22, 23, 24, 25, 26, 27, 28, 29, 30, 58, 59, 60, 61, 62] (by decide +kernel) (by decide +kernel)
set_option maxRecDepth 20000 in
theorem gX5_isAlike_X0_entry : GoodIn wsX5_isAlike (wsV RX5 130 RX0 yX0_entry wsX0_entry) := goodIn_app (goodIn_of _ (by decide +kernel)) ggX5_isAlike_X0_entry
set_option maxRecDepth 20000 in
theorem ggX5_isAlike_X6_isShown : GoodIn wsX5_isAlike wsX6_isShown := goodIn_r _ [34, 35, 36, 37, 38, 5, 39, 7, 8, 40, 21, 22, 12, 23, 24, 41, 42, 43, 44, 45, 52, 53, 54, 55, 56, 57, 58, 59, 60, 61] (by decide +kernel) (by decide +kernel)
set_option maxRecDepth 20000 in
theorem gX5_isAlike_X6_isShown : GoodIn wsX5_isAlike (wsV RX5 131 RX6 yX6_isShown wsX6_isShown) := goodIn_app (goodIn_of _ (by decide +kernel)) ggX5_isAlike_X6_isShown
theorem dX5_isAlike_0 : decode cX5_isAlike 0 = .ok (.aload_n 0, 1) := by decide +kernel
theorem dX5_isAlike_1 : decode cX5_isAlike 1 = .ok (.getfield 33, 3) := by decide +kernel
theorem dX5_isAlike_4 : decode cX5_isAlike 4 = .ok (.iload_n 1, 1) := by decide +kernel
theorem dX5_isAlike_5 : decode cX5_isAlike 5 = .ok (.invokevirtual 41, 3) := by decide +kernel
theorem dX5_isAlike_8 : decode cX5_isAlike 8 = .ok (.astore 4, 2) := by decide +kernel
theorem dX5_isAlike_10 : decode cX5_isAlike 10 = .ok (.iconst 0, 1) := by decide +kernel
theorem dX5_isAlike_11 : decode cX5_isAlike 11 = .ok (.istore 5, 2) := by decide +kernel
theorem dX5_isAlike_13 : decode cX5_isAlike 13 = .ok (.iload 5, 2) := by decide +kernel
theorem dX5_isAlike_15 : decode cX5_isAlike 15 = .ok (.iconst 4, 1) := by decide +kernel
theorem dX5_isAlike_16 : decode cX5_isAlike 16 = .ok (.if_icmp .ge 58, 3) := by decide +kernel
theorem dX5_isAlike_19 : decode cX5_isAlike 19 = .ok (.aload 4, 2) := by decide +kernel
theorem dX5_isAlike_21 : decode cX5_isAlike 21 = .ok (.iload_n 2, 1) := by decide +kernel
theorem dX5_isAlike_22 : decode cX5_isAlike 22 = .ok (.iload 5, 2) := by decide +kernel
theorem dX5_isAlike_24 : decode cX5_isAlike 24 = .ok (.invokevirtual 130, 3) := by decide +kernel
theorem dX5_isAlike_27 : decode cX5_isAlike 27 = .ok (.aload 4, 2) := by decide +kernel
theorem dX5_isAlike_29 : decode cX5_isAlike 29 = .ok (.iload_n 3, 1) := by decide +kernel
theorem dX5_isAlike_30 : decode cX5_isAlike 30 = .ok (.iload 5, 2) := by decide +kernel
theorem dX5_isAlike_32 : decode cX5_isAlike 32 = .ok (.invokevirtual 130, 3) := by decide +kernel
theorem dX5_isAlike_35 : decode cX5_isAlike 35 = .ok (.if_icmp .ne 7, 3) := by decide +kernel
theorem dX5_isAlike_38 : decode cX5_isAlike 38 = .ok (.iconst 1, 1) := by decide +kernel
theorem dX5_isAlike_39 : decode cX5_isAlike 39 = .ok (.goto 4, 3) := by decide +kernel
theorem dX5_isAlike_42 : decode cX5_isAlike 42 = .ok (.iconst 0, 1) := by decide +kernel
theorem dX5_isAlike_43 : decode cX5_isAlike 43 = .ok (.istore 6, 2) := by decide +kernel
theorem dX5_isAlike_45 : decode cX5_isAlike 45 = .ok (.iload 6, 2) := by decide +kernel
theorem dX5_isAlike_47 : decode cX5_isAlike 47 = .ok (.ifCond .ne 21, 3) := by decide +kernel
theorem dX5_isAlike_50 : decode cX5_isAlike 50 = .ok (.aload_n 0, 1) := by decide +kernel
theorem dX5_isAlike_51 : decode cX5_isAlike 51 = .ok (.getfield 33, 3) := by decide +kernel
theorem dX5_isAlike_54 : decode cX5_isAlike 54 = .ok (.iload_n 1, 1) := by decide +kernel
theorem dX5_isAlike_55 : decode cX5_isAlike 55 = .ok (.iconst 4, 1) := by decide +kernel
theorem dX5_isAlike_56 : decode cX5_isAlike 56 = .ok (.imul, 1) := by decide +kernel
theorem dX5_isAlike_57 : decode cX5_isAlike 57 = .ok (.iload 5, 2) := by decide +kernel
theorem dX5_isAlike_59 : decode cX5_isAlike 59 = .ok (.iadd, 1) := by decide +kernel
theorem dX5_isAlike_60 : decode cX5_isAlike 60 = .ok (.invokevirtual 131, 3) := by decide +kernel
theorem dX5_isAlike_63 : decode cX5_isAlike 63 = .ok (.ifCond .eq 5, 3) := by decide +kernel
theorem dX5_isAlike_66 : decode cX5_isAlike 66 = .ok (.iconst 0, 1) := by decide +kernel
theorem dX5_isAlike_67 : decode cX5_isAlike 67 = .ok (.ireturn, 1) := by decide +kernel
theorem dX5_isAlike_68 : decode cX5_isAlike 68 = .ok (.iinc 5 1, 3) := by decide +kernel
theorem dX5_isAlike_71 : decode cX5_isAlike 71 = .ok (.goto (-58), 3) := by decide +kernel
theorem dX5_isAlike_74 : decode cX5_isAlike 74 = .ok (.iconst 1, 1) := by decide +kernel
theorem dX5_isAlike_75 : decode cX5_isAlike 75 = .ok (.ireturn, 1) := by decide +kernel
set_option maxRecDepth 20000 in
theorem ggX6_init_X0_init : GoodIn wsX6_init wsX0_init := goodIn_r _ [17, 18, 2, 3, 19, 10, 11, 20, 21, 22, 23, 24, 25, 26, 27, 28, 29, 30, 31, 32, 33, 34, 35, 36, 37, 38, 39, 40, 41, 42, 43, 44, 45, 46, 47, 48, 60, 50, 51, 52, 53, 61, 62, 63] (by decide +kernel) (by decide +kernel)
set_option maxRecDepth 20000 in
theorem gX6_init_X0_init_n11 : GoodIn wsX6_init (wsX0_init) := ggX6_init_X0_init
set_option maxRecDepth 20000 in
theorem ggX6_init_X3_init : GoodIn wsX6_init wsX3_init := goodIn_r _ [29, 30, 2, 3, 31, 32, 33, 34, 35, 36, 37, 38, 39, 11, 40, 60] (by decide +kernel) (by decide +kernel)
set_option maxRecDepth 20000 in
theorem gX6_init_X3_init : GoodIn wsX6_init (wsX3_init) := ggX6_init_X3_init
theorem dX6_init_0 : decode cX6_init 0 = .ok (.aload_n 0, 1) := by decide +kernel
theorem dX6_init_1 : decode cX6_init 1 = .ok (.invokespecial 3, 3) := by decide +kernel
theorem dX6_init_4 : decode cX6_init 4 = .ok (.aload_n 0, 1) := by decide +kernel
theorem dX6_init_5 : decode cX6_init 5 = .ok (.new 9, 3) := by decide +kernel
theorem dX6_init_8 : decode cX6_init 8 = .ok (.dup, 1) := by decide +kernel
theorem dX6_init_9 : decode cX6_init 9 = .ok (.invokespecial 11, 3) := by decide +kernel
theorem dX6_init_12 : decode cX6_init 12 = .ok (.putfield 12, 3) := by decide +kernel
theorem dX6_init_15 : decode cX6_init 15 = .ok (.aload_n 0, 1) := by decide +kernel
theorem dX6_init_16 : decode cX6_init 16 = .ok (.new 9, 3) := by decide +kernel
theorem dX6_init_19 : decode cX6_init 19 = .ok (.dup, 1) := by decide +kernel
theorem dX6_init_20 : decode cX6_init 20 = .ok (.invokespecial 11, 3) := by decide +kernel
theorem dX6_init_23 : decode cX6_init 23 = .ok (.putfield 18, 3) := by decide +kernel
theorem dX6_init_26 : decode cX6_init 26 = .ok (.aload_n 0, 1) := by decide +kernel
theorem dX6_init_27 : decode cX6_init 27 = .ok (.new 21, 3) := by decide +kernel
theorem dX6_init_30 : decode cX6_init 30 = .ok (.dup, 1) := by decide +kernel
theorem dX6_init_31 : decode cX6_init 31 = .ok (.iconst 2, 1) := by decide +kernel
theorem dX6_init_32 : decode cX6_init 32 = .ok (.iconst (-1), 1) := by decide +kernel
theorem dX6_init_33 : decode cX6_init 33 = .ok (.invokespecial 23, 3) := by decide +kernel
theorem dX6_init_36 : decode cX6_init 36 = .ok (.putfield 26, 3) := by decide +kernel
theorem dX6_init_39 : decode cX6_init 39 = .ok (.aload_n 0, 1) := by decide +kernel
theorem dX6_init_40 : decode cX6_init 40 = .ok (.new 21, 3) := by decide +kernel
theorem dX6_init_43 : decode cX6_init 43 = .ok (.dup, 1) := by decide +kernel
theorem dX6_init_44 : decode cX6_init 44 = .ok (.iconst 2, 1) := by decide +kernel
theorem dX6_init_45 : decode cX6_init 45 = .ok (.iconst 0, 1) := by decide +kernel
theorem dX6_init_46 : decode cX6_init 46 = .ok (.invokespecial 23, 3) := by decide +kernel
theorem dX6_init_49 : decode cX6_init 49 = .ok (.putfield 30, 3) := by decide +kernel
theorem dX6_init_52 : decode cX6_init 52 = .ok (.aload_n 0, 1) := by decide +kernel
theorem dX6_init_53 : decode cX6_init 53 = .ok (.iconst 0, 1) := by decide +kernel
theorem dX6_init_54 : decode cX6_init 54 = .ok (.putfield 33, 3) := by decide +kernel
theorem dX6_init_57 : decode cX6_init 57 = .ok (.aload_n 0, 1) := by decide +kernel
theorem dX6_init_58 : decode cX6_init 58 = .ok (.sipush 255, 3) := by decide +kernel
theorem dX6_init_61 : decode cX6_init 61 = .ok (.putfield 37, 3) := by decide +kernel
theorem dX6_init_64 : decode cX6_init 64 = .ok (.return_, 1) := by decide +kernel
theorem dX6_drawer_0 : decode cX6_drawer 0 = .ok (.iload_n 1, 1) := by decide +kernel
theorem dX6_drawer_1 : decode cX6_drawer 1 = .ok (.ifCond .ne 10, 3) := by decide +kernel
theorem dX6_drawer_4 : decode cX6_drawer 4 = .ok (.aload_n 0, 1) := by decide +kernel
theorem dX6_drawer_5 : decode cX6_drawer 5 = .ok (.getfield 12, 3) := by decide +kernel
theorem dX6_drawer_8 : decode cX6_drawer 8 = .ok (.goto 7, 3) := by decide +kernel
theorem dX6_drawer_11 : decode cX6_drawer 11 = .ok (.aload_n 0, 1) := by decide +kernel
theorem dX6_drawer_12 : decode cX6_drawer 12 = .ok (.getfield 18, 3) := by decide +kernel
theorem dX6_drawer_15 : decode cX6_drawer 15 = .ok (.areturn, 1) := by decide +kernel
theorem dX6_isOfBoth_0 : decode cX6_isOfBoth 0 = .ok (.aload_n 0, 1) := by decide +kernel
theorem dX6_isOfBoth_1 : decode cX6_isOfBoth 1 = .ok (.getfield 33, 3) := by decide +kernel
theorem dX6_isOfBoth_4 : decode cX6_isOfBoth 4 = .ok (.iconst 1, 1) := by decide +kernel
theorem dX6_isOfBoth_5 : decode cX6_isOfBoth 5 = .ok (.if_icmp .ne 7, 3) := by decide +kernel
theorem dX6_isOfBoth_8 : decode cX6_isOfBoth 8 = .ok (.iconst 1, 1) := by decide +kernel
theorem dX6_isOfBoth_9 : decode cX6_isOfBoth 9 = .ok (.goto 4, 3) := by decide +kernel
theorem dX6_isOfBoth_12 : decode cX6_isOfBoth 12 = .ok (.iconst 0, 1) := by decide +kernel
theorem dX6_isOfBoth_13 : decode cX6_isOfBoth 13 = .ok (.ireturn, 1) := by decide +kernel
theorem dX6_askBoth_0 : decode cX6_askBoth 0 = .ok (.aload_n 0, 1) := by decide +kernel
theorem dX6_askBoth_1 : decode cX6_askBoth 1 = .ok (.getfield 33, 3) := by decide +kernel
theorem dX6_askBoth_4 : decode cX6_askBoth 4 = .ok (.istore_n 2, 1) := by decide +kernel
theorem dX6_askBoth_5 : decode cX6_askBoth 5 = .ok (.aload_n 0, 1) := by decide +kernel
theorem dX6_askBoth_6 : decode cX6_askBoth 6 = .ok (.iload_n 1, 1) := by decide +kernel
theorem dX6_askBoth_7 : decode cX6_askBoth 7 = .ok (.putfield 33, 3) := by decide +kernel
theorem dX6_askBoth_10 : decode cX6_askBoth 10 = .ok (.iload_n 2, 1) := by decide +kernel
theorem dX6_askBoth_11 : decode cX6_askBoth 11 = .ok (.ireturn, 1) := by decide +kernel
set_option maxRecDepth 20000 in
theorem ggX6_orderColumn_X3_at : GoodIn wsX6_orderColumn wsX3_at := goodIn_r _ [6, 7, 14] (by decide +kernel) (by decide +kernel)
set_option maxRecDepth 20000 in
theorem gX6_orderColumn_X3_at : GoodIn wsX6_orderColumn (wsV RX6 40 RX3 yX3_at wsX3_at) := goodIn_app (goodIn_of _ (by decide +kernel)) ggX6_orderColumn_X3_at
theorem dX6_orderColumn_0 : decode cX6_orderColumn 0 = .ok (.aload_n 0, 1) := by decide +kernel
theorem dX6_orderColumn_1 : decode cX6_orderColumn 1 = .ok (.getfield 26, 3) := by decide +kernel
theorem dX6_orderColumn_4 : decode cX6_orderColumn 4 = .ok (.iload_n 1, 1) := by decide +kernel
theorem dX6_orderColumn_5 : decode cX6_orderColumn 5 = .ok (.invokevirtual 40, 3) := by decide +kernel
theorem dX6_orderColumn_8 : decode cX6_orderColumn 8 = .ok (.ireturn, 1) := by decide +kernel
set_option maxRecDepth 20000 in
theorem ggX6_isDownwards_X3_at : GoodIn wsX6_isDownwards wsX3_at := goodIn_r _ [6, 7, 14] (by decide +kernel) (by decide +kernel)
set_option maxRecDepth 20000 in
theorem gX6_isDownwards_X3_at : GoodIn wsX6_isDownwards (wsV RX6 40 RX3 yX3_at wsX3_at) := goodIn_app (goodIn_of _ (by decide +kernel)) ggX6_isDownwards_X3_at
theorem dX6_isDownwards_0 : decode cX6_isDownwards 0 = .ok (.aload_n 0, 1) := by decide +kernel
theorem dX6_isDownwards_1 : decode cX6_isDownwards 1 = .ok (.getfield 30, 3) := by decide +kernel
theorem dX6_isDownwards_4 : decode cX6_isDownwards 4 = .ok (.iload_n 1, 1) := by decide +kernel
theorem dX6_isDownwards_5 : decode cX6_isDownwards 5 = .ok (.invokevirtual 40, 3) := by decide +kernel
theorem dX6_isDownwards_8 : decode cX6_isDownwards 8 = .ok (.iconst 1, 1) := by decide +kernel
theorem dX6_isDownwards_9 : decode cX6_isDownwards 9 = .ok (.if_icmp .ne 7, 3) := by decide +kernel
theorem dX6_isDownwards_12 : decode cX6_isDownwards 12 = .ok (.iconst 1, 1) := by decide +kernel
theorem dX6_isDownwards_13 : decode cX6_isDownwards 13 = .ok (.goto 4, 3) := by decide +kernel
theorem dX6_isDownwards_16 : decode cX6_isDownwards 16 = .ok (.iconst 0, 1) := by decide +kernel
theorem dX6_isDownwards_17 : decode cX6_isDownwards 17 = .ok (.ireturn, 1) := by decide +kernel
set_option maxRecDepth 20000 in
theorem ggX6_setOrder_X3_set : GoodIn wsX6_setOrder wsX3_set := goodIn_r _ [7, 8, 15] (by decide +kernel) (by decide +kernel)
set_option maxRecDepth 20000 in
theorem gX6_setOrder_X3_set : GoodIn wsX6_setOrder (wsV RX6 44 RX3 yX3_set wsX3_set) := goodIn_app (goodIn_of _ (by decide +kernel)) ggX6_setOrder_X3_set
theorem dX6_setOrder_0 : decode cX6_setOrder 0 = .ok (.aload_n 0, 1) := by decide +kernel
theorem dX6_setOrder_1 : decode cX6_setOrder 1 = .ok (.getfield 26, 3) := by decide +kernel
theorem dX6_setOrder_4 : decode cX6_setOrder 4 = .ok (.iload_n 1, 1) := by decide +kernel
theorem dX6_setOrder_5 : decode cX6_setOrder 5 = .ok (.iload_n 2, 1) := by decide +kernel
theorem dX6_setOrder_6 : decode cX6_setOrder 6 = .ok (.invokevirtual 44, 3) := by decide +kernel
theorem dX6_setOrder_9 : decode cX6_setOrder 9 = .ok (.aload_n 0, 1) := by decide +kernel
theorem dX6_setOrder_10 : decode cX6_setOrder 10 = .ok (.getfield 30, 3) := by decide +kernel
theorem dX6_setOrder_13 : decode cX6_setOrder 13 = .ok (.iload_n 1, 1) := by decide +kernel
theorem dX6_setOrder_14 : decode cX6_setOrder 14 = .ok (.iload_n 3, 1) := by decide +kernel
theorem dX6_setOrder_15 : decode cX6_setOrder 15 = .ok (.invokevirtual 44, 3) := by decide +kernel
theorem dX6_setOrder_18 : decode cX6_setOrder 18 = .ok (.return_, 1) := by decide +kernel
theorem dX6_shownSet_0 : decode cX6_shownSet 0 = .ok (.aload_n 0, 1) := by decide +kernel
theorem dX6_shownSet_1 : decode cX6_shownSet 1 = .ok (.getfield 37, 3) := by decide +kernel
theorem dX6_shownSet_4 : decode cX6_shownSet 4 = .ok (.ireturn, 1) := by decide +kernel
theorem dX6_setShown_0 : decode cX6_setShown 0 = .ok (.aload_n 0, 1) := by decide +kernel
theorem dX6_setShown_1 : decode cX6_setShown 1 = .ok (.iload_n 1, 1) := by decide +kernel
theorem dX6_setShown_2 : decode cX6_setShown 2 = .ok (.putfield 37, 3) := by decide +kernel
theorem dX6_setShown_5 : decode cX6_setShown 5 = .ok (.return_, 1) := by decide +kernel
set_option maxRecDepth 20000 in
theorem ggX6_isAsked_X0_hasColumn : GoodIn wsX6_isAsked wsX0_hasColumn := goodIn_r _ [7, 8, 21, 22, 23, 24] (by decide +kernel) (by decide +kernel)
set_option maxRecDepth 20000 in
theorem gX6_isAsked_X0_hasColumn : GoodIn wsX6_isAsked (wsV RX6 47 RX0 yX0_hasColumn wsX0_hasColumn) := goodIn_app (goodIn_of _ (by decide +kernel)) ggX6_isAsked_X0_hasColumn
set_option maxRecDepth 20000 in
theorem ggX6_isAsked_X6_isOfBoth : GoodIn wsX6_isAsked wsX6_isOfBoth := goodIn_r _ [13, 14, 15, 16, 17, 18, 19, 20] (by decide +kernel) (by decide +kernel)
set_option maxRecDepth 20000 in
theorem gX6_isAsked_X6_isOfBoth : GoodIn wsX6_isAsked (wsV RX6 51 RX6 yX6_isOfBoth wsX6_isOfBoth) := goodIn_app (goodIn_of _ (by decide +kernel)) ggX6_isAsked_X6_isOfBoth
theorem dX6_isAsked_0 : decode cX6_isAsked 0 = .ok (.iload_n 1, 1) := by decide +kernel
theorem dX6_isAsked_1 : decode cX6_isAsked 1 = .ok (.iconst 4, 1) := by decide +kernel
theorem dX6_isAsked_2 : decode cX6_isAsked 2 = .ok (.if_icmp .ge 12, 3) := by decide +kernel
theorem dX6_isAsked_5 : decode cX6_isAsked 5 = .ok (.aload_n 0, 1) := by decide +kernel
theorem dX6_isAsked_6 : decode cX6_isAsked 6 = .ok (.getfield 12, 3) := by decide +kernel
theorem dX6_isAsked_9 : decode cX6_isAsked 9 = .ok (.iload_n 1, 1) := by decide +kernel
theorem dX6_isAsked_10 : decode cX6_isAsked 10 = .ok (.invokevirtual 47, 3) := by decide +kernel
theorem dX6_isAsked_13 : decode cX6_isAsked 13 = .ok (.ireturn, 1) := by decide +kernel
theorem dX6_isAsked_14 : decode cX6_isAsked 14 = .ok (.aload_n 0, 1) := by decide +kernel
theorem dX6_isAsked_15 : decode cX6_isAsked 15 = .ok (.invokevirtual 51, 3) := by decide +kernel
theorem dX6_isAsked_18 : decode cX6_isAsked 18 = .ok (.ifCond .eq 20, 3) := by decide +kernel
theorem dX6_isAsked_21 : decode cX6_isAsked 21 = .ok (.aload_n 0, 1) := by decide +kernel
theorem dX6_isAsked_22 : decode cX6_isAsked 22 = .ok (.getfield 18, 3) := by decide +kernel
theorem dX6_isAsked_25 : decode cX6_isAsked 25 = .ok (.iload_n 1, 1) := by decide +kernel
theorem dX6_isAsked_26 : decode cX6_isAsked 26 = .ok (.iconst 4, 1) := by decide +kernel
theorem dX6_isAsked_27 : decode cX6_isAsked 27 = .ok (.isub, 1) := by decide +kernel
theorem dX6_isAsked_28 : decode cX6_isAsked 28 = .ok (.invokevirtual 47, 3) := by decide +kernel
theorem dX6_isAsked_31 : decode cX6_isAsked 31 = .ok (.ifCond .eq 7, 3) := by decide +kernel
theorem dX6_isAsked_34 : decode cX6_isAsked 34 = .ok (.iconst 1, 1) := by decide +kernel
theorem dX6_isAsked_35 : decode cX6_isAsked 35 = .ok (.goto 4, 3) := by decide +kernel
theorem dX6_isAsked_38 : decode cX6_isAsked 38 = .ok (.iconst 0, 1) := by decide +kernel
theorem dX6_isAsked_39 : decode cX6_isAsked 39 = .ok (.ireturn, 1) := by decide +kernel
set_option maxRecDepth 20000 in
theorem ggX6_isShown_X6_isAsked : GoodIn wsX6_isShown wsX6_isAsked := goodIn_r _ [6, 7, 8, 9, 10, 11, 12, 13, 14, 15, 16, 17, 5, 18, 19, 20, 21, 22, 23, 24, 25, 26, 27, 28, 29] (by decide +kernel) (by decide +kernel)
set_option maxRecDepth 20000 in
theorem gX6_isShown_X6_isAsked : GoodIn wsX6_isShown (wsV RX6 55 RX6 yX6_isAsked wsX6_isAsked) := goodIn_app (goodIn_of _ (by decide +kernel)) ggX6_isShown_X6_isAsked
theorem dX6_isShown_0 : decode cX6_isShown 0 = .ok (.aload_n 0, 1) := by decide +kernel
theorem dX6_isShown_1 : decode cX6_isShown 1 = .ok (.iload_n 1, 1) := by decide +kernel
theorem dX6_isShown_2 : decode cX6_isShown 2 = .ok (.invokevirtual 55, 3) := by decide +kernel
theorem dX6_isShown_5 : decode cX6_isShown 5 = .ok (.ifCond .eq 19, 3) := by decide +kernel
theorem dX6_isShown_8 : decode cX6_isShown 8 = .ok (.aload_n 0, 1) := by decide +kernel
theorem dX6_isShown_9 : decode cX6_isShown 9 = .ok (.getfield 37, 3) := by decide +kernel
theorem dX6_isShown_12 : decode cX6_isShown 12 = .ok (.iload_n 1, 1) := by decide +kernel
theorem dX6_isShown_13 : decode cX6_isShown 13 = .ok (.ishr, 1) := by decide +kernel
theorem dX6_isShown_14 : decode cX6_isShown 14 = .ok (.iconst 1, 1) := by decide +kernel
theorem dX6_isShown_15 : decode cX6_isShown 15 = .ok (.iand, 1) := by decide +kernel
theorem dX6_isShown_16 : decode cX6_isShown 16 = .ok (.iconst 1, 1) := by decide +kernel
theorem dX6_isShown_17 : decode cX6_isShown 17 = .ok (.if_icmp .ne 7, 3) := by decide +kernel
theorem dX6_isShown_20 : decode cX6_isShown 20 = .ok (.iconst 1, 1) := by decide +kernel
theorem dX6_isShown_21 : decode cX6_isShown 21 = .ok (.goto 4, 3) := by decide +kernel
theorem dX6_isShown_24 : decode cX6_isShown 24 = .ok (.iconst 0, 1) := by decide +kernel
theorem dX6_isShown_25 : decode cX6_isShown 25 = .ok (.ireturn, 1) := by decide +kernel
set_option maxRecDepth 20000 in
theorem ggX6_entry_X0_entry : GoodIn wsX6_entry wsX0_entry := goodIn_r _ [7, 8, 9, 10, 11, 6, 12, 13, 14, 15, 16, 17, 18, 19, 20, 21, 22, 23, 24, 31, 32, 33, 34, 35] (by decide +kernel) (by decide +kernel)
set_option maxRecDepth 20000 in
theorem gX6_entry_X0_entry : GoodIn wsX6_entry (wsV RX6 58 RX0 yX0_entry wsX0_entry) := goodIn_app (goodIn_of _ (by decide +kernel)) ggX6_entry_X0_entry
theorem dX6_entry_0 : decode cX6_entry 0 = .ok (.iload_n 1, 1) := by decide +kernel
theorem dX6_entry_1 : decode cX6_entry 1 = .ok (.iconst 4, 1) := by decide +kernel
theorem dX6_entry_2 : decode cX6_entry 2 = .ok (.if_icmp .ge 16, 3) := by decide +kernel
theorem dX6_entry_5 : decode cX6_entry 5 = .ok (.aload_n 0, 1) := by decide +kernel
theorem dX6_entry_6 : decode cX6_entry 6 = .ok (.getfield 12, 3) := by decide +kernel
theorem dX6_entry_9 : decode cX6_entry 9 = .ok (.iload_n 2, 1) := by decide +kernel
theorem dX6_entry_10 : decode cX6_entry 10 = .ok (.bipush 12, 2) := by decide +kernel
theorem dX6_entry_12 : decode cX6_entry 12 = .ok (.idiv, 1) := by decide +kernel
theorem dX6_entry_13 : decode cX6_entry 13 = .ok (.iload_n 1, 1) := by decide +kernel
theorem dX6_entry_14 : decode cX6_entry 14 = .ok (.invokevirtual 58, 3) := by decide +kernel
theorem dX6_entry_17 : decode cX6_entry 17 = .ok (.ireturn, 1) := by decide +kernel
theorem dX6_entry_18 : decode cX6_entry 18 = .ok (.aload_n 0, 1) := by decide +kernel
theorem dX6_entry_19 : decode cX6_entry 19 = .ok (.getfield 18, 3) := by decide +kernel
theorem dX6_entry_22 : decode cX6_entry 22 = .ok (.iload_n 2, 1) := by decide +kernel
theorem dX6_entry_23 : decode cX6_entry 23 = .ok (.bipush 12, 2) := by decide +kernel
theorem dX6_entry_25 : decode cX6_entry 25 = .ok (.irem, 1) := by decide +kernel
theorem dX6_entry_26 : decode cX6_entry 26 = .ok (.iload_n 1, 1) := by decide +kernel
theorem dX6_entry_27 : decode cX6_entry 27 = .ok (.iconst 4, 1) := by decide +kernel
theorem dX6_entry_28 : decode cX6_entry 28 = .ok (.isub, 1) := by decide +kernel
theorem dX6_entry_29 : decode cX6_entry 29 = .ok (.invokevirtual 58, 3) := by decide +kernel
theorem dX6_entry_32 : decode cX6_entry 32 = .ok (.ireturn, 1) := by decide +kernel
set_option maxRecDepth 20000 in
theorem ggX6_exampleOf_X0_example : GoodIn wsX6_exampleOf wsX0_example := goodIn_r _ [7, 8, 15, 16, 17, 18] (by decide +kernel) (by decide +kernel)
set_option maxRecDepth 20000 in
theorem gX6_exampleOf_X0_example : GoodIn wsX6_exampleOf (wsV RX6 62 RX0 yX0_example wsX0_example) := goodIn_app (goodIn_of _ (by decide +kernel)) ggX6_exampleOf_X0_example
theorem dX6_exampleOf_0 : decode cX6_exampleOf 0 = .ok (.iload_n 1, 1) := by decide +kernel
theorem dX6_exampleOf_1 : decode cX6_exampleOf 1 = .ok (.iconst 4, 1) := by decide +kernel
theorem dX6_exampleOf_2 : decode cX6_exampleOf 2 = .ok (.if_icmp .ge 13, 3) := by decide +kernel
theorem dX6_exampleOf_5 : decode cX6_exampleOf 5 = .ok (.aload_n 0, 1) := by decide +kernel
theorem dX6_exampleOf_6 : decode cX6_exampleOf 6 = .ok (.getfield 12, 3) := by decide +kernel
theorem dX6_exampleOf_9 : decode cX6_exampleOf 9 = .ok (.invokevirtual 62, 3) := by decide +kernel
theorem dX6_exampleOf_12 : decode cX6_exampleOf 12 = .ok (.goto 10, 3) := by decide +kernel
theorem dX6_exampleOf_15 : decode cX6_exampleOf 15 = .ok (.aload_n 0, 1) := by decide +kernel
theorem dX6_exampleOf_16 : decode cX6_exampleOf 16 = .ok (.getfield 18, 3) := by decide +kernel
theorem dX6_exampleOf_19 : decode cX6_exampleOf 19 = .ok (.invokevirtual 62, 3) := by decide +kernel
theorem dX6_exampleOf_22 : decode cX6_exampleOf 22 = .ok (.areturn, 1) := by decide +kernel
set_option maxRecDepth 20000 in
theorem ggX6_copyFrom_X0_copyFrom : GoodIn wsX6_copyFrom wsX0_copyFrom := goodIn_r _ [11, 12, 13, 14, 15, 16, 17, 18, 19, 20, 21, 22, 23, 24, 25, 26, 27, 28, 29, 30, 31, 32, 33, 34, 42, 43, 44, 45, 46, 47, 48, 49] (by decide +kernel) (by decide +kernel)
set_option maxRecDepth 20000 in
theorem gX6_copyFrom_X0_copyFrom : GoodIn wsX6_copyFrom (wsV RX6 66 RX0 yX0_copyFrom wsX0_copyFrom) := goodIn_app (goodIn_of _ (by decide +kernel)) ggX6_copyFrom_X0_copyFrom
set_option maxRecDepth 20000 in
theorem ggX6_copyFrom_X3_copyFrom : GoodIn wsX6_copyFrom wsX3_copyFrom := goodIn_r _ [20, 21, 22, 23, 24, 19, 25, 46] (by decide +kernel) (by decide +kernel)
set_option maxRecDepth 20000 in
theorem gX6_copyFrom_X3_copyFrom : GoodIn wsX6_copyFrom (wsV RX6 70 RX3 yX3_copyFrom wsX3_copyFrom) := goodIn_app (goodIn_of _ (by decide +kernel)) ggX6_copyFrom_X3_copyFrom
theorem dX6_copyFrom_0 : decode cX6_copyFrom 0 = .ok (.aload_n 0, 1) := by decide +kernel
theorem dX6_copyFrom_1 : decode cX6_copyFrom 1 = .ok (.getfield 12, 3) := by decide +kernel
theorem dX6_copyFrom_4 : decode cX6_copyFrom 4 = .ok (.aload_n 1, 1) := by decide +kernel
theorem dX6_copyFrom_5 : decode cX6_copyFrom 5 = .ok (.getfield 12, 3) := by decide +kernel
theorem dX6_copyFrom_8 : decode cX6_copyFrom 8 = .ok (.invokevirtual 66, 3) := by decide +kernel
theorem dX6_copyFrom_11 : decode cX6_copyFrom 11 = .ok (.aload_n 0, 1) := by decide +kernel
theorem dX6_copyFrom_12 : decode cX6_copyFrom 12 = .ok (.getfield 18, 3) := by decide +kernel
theorem dX6_copyFrom_15 : decode cX6_copyFrom 15 = .ok (.aload_n 1, 1) := by decide +kernel
theorem dX6_copyFrom_16 : decode cX6_copyFrom 16 = .ok (.getfield 18, 3) := by decide +kernel
theorem dX6_copyFrom_19 : decode cX6_copyFrom 19 = .ok (.invokevirtual 66, 3) := by decide +kernel
theorem dX6_copyFrom_22 : decode cX6_copyFrom 22 = .ok (.aload_n 0, 1) := by decide +kernel
theorem dX6_copyFrom_23 : decode cX6_copyFrom 23 = .ok (.getfield 26, 3) := by decide +kernel
theorem dX6_copyFrom_26 : decode cX6_copyFrom 26 = .ok (.aload_n 1, 1) := by decide +kernel
theorem dX6_copyFrom_27 : decode cX6_copyFrom 27 = .ok (.getfield 26, 3) := by decide +kernel
theorem dX6_copyFrom_30 : decode cX6_copyFrom 30 = .ok (.invokevirtual 70, 3) := by decide +kernel
theorem dX6_copyFrom_33 : decode cX6_copyFrom 33 = .ok (.aload_n 0, 1) := by decide +kernel
theorem dX6_copyFrom_34 : decode cX6_copyFrom 34 = .ok (.getfield 30, 3) := by decide +kernel
theorem dX6_copyFrom_37 : decode cX6_copyFrom 37 = .ok (.aload_n 1, 1) := by decide +kernel
theorem dX6_copyFrom_38 : decode cX6_copyFrom 38 = .ok (.getfield 30, 3) := by decide +kernel
theorem dX6_copyFrom_41 : decode cX6_copyFrom 41 = .ok (.invokevirtual 70, 3) := by decide +kernel
