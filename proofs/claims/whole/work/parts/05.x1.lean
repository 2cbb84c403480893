theorem dX1_init_0 : decode cX1_init 0 = .ok (.aload_n 0, 1) := by decide +kernel
theorem dX1_init_1 : decode cX1_init 1 = .ok (.invokespecial 3, 3) := by decide +kernel
theorem dX1_init_4 : decode cX1_init 4 = .ok (.aload_n 0, 1) := by decide +kernel
theorem dX1_init_5 : decode cX1_init 5 = .ok (.bipush 7, 2) := by decide +kernel
theorem dX1_init_7 : decode cX1_init 7 = .ok (.newarray .int, 2) := by decide +kernel
theorem dX1_init_9 : decode cX1_init 9 = .ok (.putfield 9, 3) := by decide +kernel
theorem dX1_init_12 : decode cX1_init 12 = .ok (.aload_n 0, 1) := by decide +kernel
theorem dX1_init_13 : decode cX1_init 13 = .ok (.bipush 7, 2) := by decide +kernel
theorem dX1_init_15 : decode cX1_init 15 = .ok (.newarray .int, 2) := by decide +kernel
theorem dX1_init_17 : decode cX1_init 17 = .ok (.putfield 15, 3) := by decide +kernel
theorem dX1_init_20 : decode cX1_init 20 = .ok (.aload_n 0, 1) := by decide +kernel
theorem dX1_init_21 : decode cX1_init 21 = .ok (.bipush 7, 2) := by decide +kernel
theorem dX1_init_23 : decode cX1_init 23 = .ok (.newarray .int, 2) := by decide +kernel
theorem dX1_init_25 : decode cX1_init 25 = .ok (.putfield 18, 3) := by decide +kernel
theorem dX1_init_28 : decode cX1_init 28 = .ok (.aload_n 0, 1) := by decide +kernel
theorem dX1_init_29 : decode cX1_init 29 = .ok (.bipush 7, 2) := by decide +kernel
theorem dX1_init_31 : decode cX1_init 31 = .ok (.newarray .int, 2) := by decide +kernel
theorem dX1_init_33 : decode cX1_init 33 = .ok (.putfield 21, 3) := by decide +kernel
theorem dX1_init_36 : decode cX1_init 36 = .ok (.aload_n 0, 1) := by decide +kernel
theorem dX1_init_37 : decode cX1_init 37 = .ok (.bipush 7, 2) := by decide +kernel
theorem dX1_init_39 : decode cX1_init 39 = .ok (.newarray .int, 2) := by decide +kernel
theorem dX1_init_41 : decode cX1_init 41 = .ok (.putfield 24, 3) := by decide +kernel
theorem dX1_init_44 : decode cX1_init 44 = .ok (.aload_n 0, 1) := by decide +kernel
theorem dX1_init_45 : decode cX1_init 45 = .ok (.bipush 7, 2) := by decide +kernel
theorem dX1_init_47 : decode cX1_init 47 = .ok (.newarray .boolean, 2) := by decide +kernel
theorem dX1_init_49 : decode cX1_init 49 = .ok (.putfield 27, 3) := by decide +kernel
theorem dX1_init_52 : decode cX1_init 52 = .ok (.aload_n 0, 1) := by decide +kernel
theorem dX1_init_53 : decode cX1_init 53 = .ok (.bipush 7, 2) := by decide +kernel
theorem dX1_init_55 : decode cX1_init 55 = .ok (.newarray .int, 2) := by decide +kernel
theorem dX1_init_57 : decode cX1_init 57 = .ok (.putfield 31, 3) := by decide +kernel
theorem dX1_init_60 : decode cX1_init 60 = .ok (.aload_n 0, 1) := by decide +kernel
theorem dX1_init_61 : decode cX1_init 61 = .ok (.bipush 7, 2) := by decide +kernel
theorem dX1_init_63 : decode cX1_init 63 = .ok (.newarray .int, 2) := by decide +kernel
theorem dX1_init_65 : decode cX1_init 65 = .ok (.putfield 34, 3) := by decide +kernel
theorem dX1_init_68 : decode cX1_init 68 = .ok (.aload_n 0, 1) := by decide +kernel
theorem dX1_init_69 : decode cX1_init 69 = .ok (.bipush 10, 2) := by decide +kernel
theorem dX1_init_71 : decode cX1_init 71 = .ok (.newarray .int, 2) := by decide +kernel
theorem dX1_init_73 : decode cX1_init 73 = .ok (.putfield 37, 3) := by decide +kernel
theorem dX1_init_76 : decode cX1_init 76 = .ok (.aload_n 0, 1) := by decide +kernel
theorem dX1_init_77 : decode cX1_init 77 = .ok (.iconst 0, 1) := by decide +kernel
theorem dX1_init_78 : decode cX1_init 78 = .ok (.putfield 40, 3) := by decide +kernel
theorem dX1_init_81 : decode cX1_init 81 = .ok (.aload_n 0, 1) := by decide +kernel
theorem dX1_init_82 : decode cX1_init 82 = .ok (.lconst 0, 1) := by decide +kernel
theorem dX1_init_83 : decode cX1_init 83 = .ok (.putfield 44, 3) := by decide +kernel
theorem dX1_init_86 : decode cX1_init 86 = .ok (.aload_n 0, 1) := by decide +kernel
theorem dX1_init_87 : decode cX1_init 87 = .ok (.iconst 0, 1) := by decide +kernel
theorem dX1_init_88 : decode cX1_init 88 = .ok (.putfield 48, 3) := by decide +kernel
theorem dX1_init_91 : decode cX1_init 91 = .ok (.return_, 1) := by decide +kernel
theorem dX1_clear_0 : decode cX1_clear 0 = .ok (.aload_n 0, 1) := by decide +kernel
theorem dX1_clear_1 : decode cX1_clear 1 = .ok (.iload_n 1, 1) := by decide +kernel
theorem dX1_clear_2 : decode cX1_clear 2 = .ok (.putfield 40, 3) := by decide +kernel
theorem dX1_clear_5 : decode cX1_clear 5 = .ok (.aload_n 0, 1) := by decide +kernel
theorem dX1_clear_6 : decode cX1_clear 6 = .ok (.iconst 0, 1) := by decide +kernel
theorem dX1_clear_7 : decode cX1_clear 7 = .ok (.putfield 48, 3) := by decide +kernel
theorem dX1_clear_10 : decode cX1_clear 10 = .ok (.iconst 0, 1) := by decide +kernel
theorem dX1_clear_11 : decode cX1_clear 11 = .ok (.istore_n 3, 1) := by decide +kernel
theorem dX1_clear_12 : decode cX1_clear 12 = .ok (.iload_n 3, 1) := by decide +kernel
theorem dX1_clear_13 : decode cX1_clear 13 = .ok (.bipush 10, 2) := by decide +kernel
theorem dX1_clear_15 : decode cX1_clear 15 = .ok (.if_icmp .ge 18, 3) := by decide +kernel
theorem dX1_clear_18 : decode cX1_clear 18 = .ok (.aload_n 0, 1) := by decide +kernel
theorem dX1_clear_19 : decode cX1_clear 19 = .ok (.getfield 37, 3) := by decide +kernel
theorem dX1_clear_22 : decode cX1_clear 22 = .ok (.iload_n 3, 1) := by decide +kernel
theorem dX1_clear_23 : decode cX1_clear 23 = .ok (.aload_n 2, 1) := by decide +kernel
theorem dX1_clear_24 : decode cX1_clear 24 = .ok (.iload_n 3, 1) := by decide +kernel
theorem dX1_clear_25 : decode cX1_clear 25 = .ok (.iaload, 1) := by decide +kernel
theorem dX1_clear_26 : decode cX1_clear 26 = .ok (.iastore, 1) := by decide +kernel
theorem dX1_clear_27 : decode cX1_clear 27 = .ok (.iinc 3 1, 3) := by decide +kernel
theorem dX1_clear_30 : decode cX1_clear 30 = .ok (.goto (-18), 3) := by decide +kernel
theorem dX1_clear_33 : decode cX1_clear 33 = .ok (.return_, 1) := by decide +kernel
theorem dX1_add_0 : decode cX1_add 0 = .ok (.aload_n 0, 1) := by decide +kernel
theorem dX1_add_1 : decode cX1_add 1 = .ok (.getfield 9, 3) := by decide +kernel
theorem dX1_add_4 : decode cX1_add 4 = .ok (.aload_n 0, 1) := by decide +kernel
theorem dX1_add_5 : decode cX1_add 5 = .ok (.getfield 48, 3) := by decide +kernel
theorem dX1_add_8 : decode cX1_add 8 = .ok (.iload_n 1, 1) := by decide +kernel
theorem dX1_add_9 : decode cX1_add 9 = .ok (.iastore, 1) := by decide +kernel
theorem dX1_add_10 : decode cX1_add 10 = .ok (.aload_n 0, 1) := by decide +kernel
theorem dX1_add_11 : decode cX1_add 11 = .ok (.getfield 15, 3) := by decide +kernel
theorem dX1_add_14 : decode cX1_add 14 = .ok (.aload_n 0, 1) := by decide +kernel
theorem dX1_add_15 : decode cX1_add 15 = .ok (.getfield 48, 3) := by decide +kernel
theorem dX1_add_18 : decode cX1_add 18 = .ok (.aload_n 2, 1) := by decide +kernel
theorem dX1_add_19 : decode cX1_add 19 = .ok (.iconst 0, 1) := by decide +kernel
theorem dX1_add_20 : decode cX1_add 20 = .ok (.iaload, 1) := by decide +kernel
theorem dX1_add_21 : decode cX1_add 21 = .ok (.iastore, 1) := by decide +kernel
theorem dX1_add_22 : decode cX1_add 22 = .ok (.aload_n 0, 1) := by decide +kernel
theorem dX1_add_23 : decode cX1_add 23 = .ok (.getfield 18, 3) := by decide +kernel
theorem dX1_add_26 : decode cX1_add 26 = .ok (.aload_n 0, 1) := by decide +kernel
theorem dX1_add_27 : decode cX1_add 27 = .ok (.getfield 48, 3) := by decide +kernel
theorem dX1_add_30 : decode cX1_add 30 = .ok (.aload_n 2, 1) := by decide +kernel
theorem dX1_add_31 : decode cX1_add 31 = .ok (.iconst 4, 1) := by decide +kernel
theorem dX1_add_32 : decode cX1_add 32 = .ok (.iaload, 1) := by decide +kernel
theorem dX1_add_33 : decode cX1_add 33 = .ok (.iastore, 1) := by decide +kernel
theorem dX1_add_34 : decode cX1_add 34 = .ok (.aload_n 0, 1) := by decide +kernel
theorem dX1_add_35 : decode cX1_add 35 = .ok (.getfield 21, 3) := by decide +kernel
theorem dX1_add_38 : decode cX1_add 38 = .ok (.aload_n 0, 1) := by decide +kernel
theorem dX1_add_39 : decode cX1_add 39 = .ok (.getfield 48, 3) := by decide +kernel
theorem dX1_add_42 : decode cX1_add 42 = .ok (.aload_n 2, 1) := by decide +kernel
theorem dX1_add_43 : decode cX1_add 43 = .ok (.iconst 5, 1) := by decide +kernel
theorem dX1_add_44 : decode cX1_add 44 = .ok (.iaload, 1) := by decide +kernel
theorem dX1_add_45 : decode cX1_add 45 = .ok (.iastore, 1) := by decide +kernel
theorem dX1_add_46 : decode cX1_add 46 = .ok (.aload_n 0, 1) := by decide +kernel
theorem dX1_add_47 : decode cX1_add 47 = .ok (.getfield 24, 3) := by decide +kernel
theorem dX1_add_50 : decode cX1_add 50 = .ok (.aload_n 0, 1) := by decide +kernel
theorem dX1_add_51 : decode cX1_add 51 = .ok (.getfield 48, 3) := by decide +kernel
theorem dX1_add_54 : decode cX1_add 54 = .ok (.aload_n 2, 1) := by decide +kernel
theorem dX1_add_55 : decode cX1_add 55 = .ok (.bipush 7, 2) := by decide +kernel
theorem dX1_add_57 : decode cX1_add 57 = .ok (.iaload, 1) := by decide +kernel
theorem dX1_add_58 : decode cX1_add 58 = .ok (.iastore, 1) := by decide +kernel
theorem dX1_add_59 : decode cX1_add 59 = .ok (.aload_n 0, 1) := by decide +kernel
theorem dX1_add_60 : decode cX1_add 60 = .ok (.getfield 27, 3) := by decide +kernel
theorem dX1_add_63 : decode cX1_add 63 = .ok (.aload_n 0, 1) := by decide +kernel
theorem dX1_add_64 : decode cX1_add 64 = .ok (.getfield 48, 3) := by decide +kernel
theorem dX1_add_67 : decode cX1_add 67 = .ok (.iconst 0, 1) := by decide +kernel
theorem dX1_add_68 : decode cX1_add 68 = .ok (.bastore, 1) := by decide +kernel
theorem dX1_add_69 : decode cX1_add 69 = .ok (.aload_n 0, 1) := by decide +kernel
theorem dX1_add_70 : decode cX1_add 70 = .ok (.dup, 1) := by decide +kernel
theorem dX1_add_71 : decode cX1_add 71 = .ok (.getfield 48, 3) := by decide +kernel
theorem dX1_add_74 : decode cX1_add 74 = .ok (.iconst 1, 1) := by decide +kernel
theorem dX1_add_75 : decode cX1_add 75 = .ok (.iadd, 1) := by decide +kernel
theorem dX1_add_76 : decode cX1_add 76 = .ok (.putfield 48, 3) := by decide +kernel
theorem dX1_add_79 : decode cX1_add 79 = .ok (.return_, 1) := by decide +kernel
set_option maxRecDepth 20000 in
theorem ggX1_search_X1_tryAll : GoodIn wsX1_search wsX1_tryAll := goodIn_r _ [7, 8, 9, 10, 11, 12, 6, 13, 2, 14, 15, 16, 17, 18, 19, 20, 21, 22, 23, 24, 25, 26, 27, 28, 29, 30, 31, 32, 3, 4, 5, 33, 34, 35, 36, 37, 38, 39, 40, 41, 42, 43, 44] (by decide +kernel) (by decide +kernel)
set_option maxRecDepth 20000 in
theorem gX1_search_X1_tryAll : GoodIn wsX1_search (wsV RX1 55 RX1 yX1_tryAll wsX1_tryAll) := goodIn_app (goodIn_of _ (by decide +kernel)) ggX1_search_X1_tryAll
theorem dX1_search_0 : decode cX1_search 0 = .ok (.aload_n 0, 1) := by decide +kernel
theorem dX1_search_1 : decode cX1_search 1 = .ok (.ldc2_w 53, 3) := by decide +kernel
theorem dX1_search_4 : decode cX1_search 4 = .ok (.putfield 44, 3) := by decide +kernel
theorem dX1_search_7 : decode cX1_search 7 = .ok (.aload_n 0, 1) := by decide +kernel
theorem dX1_search_8 : decode cX1_search 8 = .ok (.iconst 0, 1) := by decide +kernel
theorem dX1_search_9 : decode cX1_search 9 = .ok (.iload_n 1, 1) := by decide +kernel
theorem dX1_search_10 : decode cX1_search 10 = .ok (.lconst 0, 1) := by decide +kernel
theorem dX1_search_11 : decode cX1_search 11 = .ok (.invokevirtual 55, 3) := by decide +kernel
theorem dX1_search_14 : decode cX1_search 14 = .ok (.return_, 1) := by decide +kernel
theorem dX1_bestCost_0 : decode cX1_bestCost 0 = .ok (.aload_n 0, 1) := by decide +kernel
theorem dX1_bestCost_1 : decode cX1_bestCost 1 = .ok (.getfield 48, 3) := by decide +kernel
theorem dX1_bestCost_4 : decode cX1_bestCost 4 = .ok (.ifCond .ne 7, 3) := by decide +kernel
theorem dX1_bestCost_7 : decode cX1_bestCost 7 = .ok (.lconst 0, 1) := by decide +kernel
theorem dX1_bestCost_8 : decode cX1_bestCost 8 = .ok (.goto 7, 3) := by decide +kernel
theorem dX1_bestCost_11 : decode cX1_bestCost 11 = .ok (.aload_n 0, 1) := by decide +kernel
theorem dX1_bestCost_12 : decode cX1_bestCost 12 = .ok (.getfield 44, 3) := by decide +kernel
theorem dX1_bestCost_15 : decode cX1_bestCost 15 = .ok (.lreturn, 1) := by decide +kernel
theorem dX1_bestAt_0 : decode cX1_bestAt 0 = .ok (.iload_n 1, 1) := by decide +kernel
theorem dX1_bestAt_1 : decode cX1_bestAt 1 = .ok (.ifCond .lt 11, 3) := by decide +kernel
theorem dX1_bestAt_4 : decode cX1_bestAt 4 = .ok (.iload_n 1, 1) := by decide +kernel
theorem dX1_bestAt_5 : decode cX1_bestAt 5 = .ok (.aload_n 0, 1) := by decide +kernel
theorem dX1_bestAt_6 : decode cX1_bestAt 6 = .ok (.getfield 48, 3) := by decide +kernel
theorem dX1_bestAt_9 : decode cX1_bestAt 9 = .ok (.if_icmp .lt 7, 3) := by decide +kernel
theorem dX1_bestAt_12 : decode cX1_bestAt 12 = .ok (.iconst (-1), 1) := by decide +kernel
theorem dX1_bestAt_13 : decode cX1_bestAt 13 = .ok (.goto 14, 3) := by decide +kernel
theorem dX1_bestAt_16 : decode cX1_bestAt 16 = .ok (.aload_n 0, 1) := by decide +kernel
theorem dX1_bestAt_17 : decode cX1_bestAt 17 = .ok (.getfield 9, 3) := by decide +kernel
theorem dX1_bestAt_20 : decode cX1_bestAt 20 = .ok (.aload_n 0, 1) := by decide +kernel
theorem dX1_bestAt_21 : decode cX1_bestAt 21 = .ok (.getfield 34, 3) := by decide +kernel
theorem dX1_bestAt_24 : decode cX1_bestAt 24 = .ok (.iload_n 1, 1) := by decide +kernel
theorem dX1_bestAt_25 : decode cX1_bestAt 25 = .ok (.iaload, 1) := by decide +kernel
theorem dX1_bestAt_26 : decode cX1_bestAt 26 = .ok (.iaload, 1) := by decide +kernel
theorem dX1_bestAt_27 : decode cX1_bestAt 27 = .ok (.ireturn, 1) := by decide +kernel
set_option maxRecDepth 20000 in
theorem ggX1_tryAll_X1_keepTried : GoodIn wsX1_tryAll wsX1_keepTried := goodIn_r _ [7, 8, 1, 9, 10, 31, 32, 33, 34, 35, 36, 37, 38, 39, 40, 41, 42] (by decide +kernel) (by decide +kernel)
set_option maxRecDepth 20000 in
theorem gX1_tryAll_X1_keepTried : GoodIn wsX1_tryAll (wsV RX1 59 RX1 yX1_keepTried wsX1_keepTried) := goodIn_app (goodIn_of _ (by decide +kernel)) ggX1_tryAll_X1_keepTried
set_option maxRecDepth 20000 in
theorem ggX1_tryAll_X1_tryNext : GoodIn wsX1_tryAll wsX1_tryNext := goodIn_r _ [14, 15, 16, 17, 18, 19, 20, 8, 10, 2, 21, 22, 23, 24, 25, 26, 27, 28, 29, 30, 6, 0, 1, 3, 4, 5, 7, 9, 11, 12, 13, 31, 32, 33, 34, 35, 36, 37, 38, 39, 40, 41, 42] (by decide +kernel) (by decide +kernel)
set_option maxRecDepth 20000 in
theorem gX1_tryAll_X1_tryNext : GoodIn wsX1_tryAll (wsV RX1 63 RX1 yX1_tryNext wsX1_tryNext) := goodIn_app (goodIn_of _ (by decide +kernel)) ggX1_tryAll_X1_tryNext
theorem dX1_tryAll_0 : decode cX1_tryAll 0 = .ok (.iload_n 1, 1) := by decide +kernel
theorem dX1_tryAll_1 : decode cX1_tryAll 1 = .ok (.aload_n 0, 1) := by decide +kernel
theorem dX1_tryAll_2 : decode cX1_tryAll 2 = .ok (.getfield 48, 3) := by decide +kernel
theorem dX1_tryAll_5 : decode cX1_tryAll 5 = .ok (.if_icmp .lt 9, 3) := by decide +kernel
theorem dX1_tryAll_8 : decode cX1_tryAll 8 = .ok (.aload_n 0, 1) := by decide +kernel
theorem dX1_tryAll_9 : decode cX1_tryAll 9 = .ok (.lload_n 3, 1) := by decide +kernel
theorem dX1_tryAll_10 : decode cX1_tryAll 10 = .ok (.invokevirtual 59, 3) := by decide +kernel
theorem dX1_tryAll_13 : decode cX1_tryAll 13 = .ok (.return_, 1) := by decide +kernel
theorem dX1_tryAll_14 : decode cX1_tryAll 14 = .ok (.iconst 0, 1) := by decide +kernel
theorem dX1_tryAll_15 : decode cX1_tryAll 15 = .ok (.istore 5, 2) := by decide +kernel
theorem dX1_tryAll_17 : decode cX1_tryAll 17 = .ok (.iload 5, 2) := by decide +kernel
theorem dX1_tryAll_19 : decode cX1_tryAll 19 = .ok (.aload_n 0, 1) := by decide +kernel
theorem dX1_tryAll_20 : decode cX1_tryAll 20 = .ok (.getfield 48, 3) := by decide +kernel
theorem dX1_tryAll_23 : decode cX1_tryAll 23 = .ok (.if_icmp .ge 28, 3) := by decide +kernel
theorem dX1_tryAll_26 : decode cX1_tryAll 26 = .ok (.aload_n 0, 1) := by decide +kernel
theorem dX1_tryAll_27 : decode cX1_tryAll 27 = .ok (.getfield 27, 3) := by decide +kernel
theorem dX1_tryAll_30 : decode cX1_tryAll 30 = .ok (.iload 5, 2) := by decide +kernel
theorem dX1_tryAll_32 : decode cX1_tryAll 32 = .ok (.baload, 1) := by decide +kernel
theorem dX1_tryAll_33 : decode cX1_tryAll 33 = .ok (.ifCond .ne 12, 3) := by decide +kernel
theorem dX1_tryAll_36 : decode cX1_tryAll 36 = .ok (.aload_n 0, 1) := by decide +kernel
theorem dX1_tryAll_37 : decode cX1_tryAll 37 = .ok (.iload 5, 2) := by decide +kernel
theorem dX1_tryAll_39 : decode cX1_tryAll 39 = .ok (.iload_n 1, 1) := by decide +kernel
theorem dX1_tryAll_40 : decode cX1_tryAll 40 = .ok (.iload_n 2, 1) := by decide +kernel
theorem dX1_tryAll_41 : decode cX1_tryAll 41 = .ok (.lload_n 3, 1) := by decide +kernel
theorem dX1_tryAll_42 : decode cX1_tryAll 42 = .ok (.invokevirtual 63, 3) := by decide +kernel
theorem dX1_tryAll_45 : decode cX1_tryAll 45 = .ok (.iinc 5 1, 3) := by decide +kernel
theorem dX1_tryAll_48 : decode cX1_tryAll 48 = .ok (.goto (-31), 3) := by decide +kernel
theorem dX1_tryAll_51 : decode cX1_tryAll 51 = .ok (.return_, 1) := by decide +kernel
set_option maxRecDepth 20000 in
theorem ggX1_tryNext_X3_startOf : GoodIn wsX1_tryNext wsX3_startOf := goodIn_r _ [12, 13, 14, 15, 16] (by decide +kernel) (by decide +kernel)
set_option maxRecDepth 20000 in
theorem gX1_tryNext_X3_startOf_n67 : GoodIn wsX1_tryNext (wsX3_startOf) := ggX1_tryNext_X3_startOf
set_option maxRecDepth 20000 in
theorem ggX1_tryNext_X1_tryAll : GoodIn wsX1_tryNext wsX1_tryAll := goodIn_r _ [21, 22, 9, 23, 24, 25, 20, 26, 7, 27, 8, 28, 29, 30, 0, 1, 2, 3, 4, 5, 6, 10, 11, 12, 13, 14, 15, 16, 17, 18, 19, 31, 32, 33, 34, 35, 36, 37, 38, 39, 40, 41, 42] (by decide +kernel) (by decide +kernel)
set_option maxRecDepth 20000 in
theorem gX1_tryNext_X1_tryAll : GoodIn wsX1_tryNext (wsV RX1 55 RX1 yX1_tryAll wsX1_tryAll) := goodIn_app (goodIn_of _ (by decide +kernel)) ggX1_tryNext_X1_tryAll
theorem dX1_tryNext_0 : decode cX1_tryNext 0 = .ok (.aload_n 0, 1) := by decide +kernel
theorem dX1_tryNext_1 : decode cX1_tryNext 1 = .ok (.getfield 15, 3) := by decide +kernel
theorem dX1_tryNext_4 : decode cX1_tryNext 4 = .ok (.iload_n 1, 1) := by decide +kernel
theorem dX1_tryNext_5 : decode cX1_tryNext 5 = .ok (.iaload, 1) := by decide +kernel
theorem dX1_tryNext_6 : decode cX1_tryNext 6 = .ok (.istore 6, 2) := by decide +kernel
theorem dX1_tryNext_8 : decode cX1_tryNext 8 = .ok (.aload_n 0, 1) := by decide +kernel
theorem dX1_tryNext_9 : decode cX1_tryNext 9 = .ok (.getfield 37, 3) := by decide +kernel
theorem dX1_tryNext_12 : decode cX1_tryNext 12 = .ok (.iload 6, 2) := by decide +kernel
theorem dX1_tryNext_14 : decode cX1_tryNext 14 = .ok (.iaload, 1) := by decide +kernel
theorem dX1_tryNext_15 : decode cX1_tryNext 15 = .ok (.istore 7, 2) := by decide +kernel
theorem dX1_tryNext_17 : decode cX1_tryNext 17 = .ok (.aload_n 0, 1) := by decide +kernel
theorem dX1_tryNext_18 : decode cX1_tryNext 18 = .ok (.getfield 40, 3) := by decide +kernel
theorem dX1_tryNext_21 : decode cX1_tryNext 21 = .ok (.iload_n 3, 1) := by decide +kernel
theorem dX1_tryNext_22 : decode cX1_tryNext 22 = .ok (.iload 7, 2) := by decide +kernel
theorem dX1_tryNext_24 : decode cX1_tryNext 24 = .ok (.aload_n 0, 1) := by decide +kernel
theorem dX1_tryNext_25 : decode cX1_tryNext 25 = .ok (.getfield 18, 3) := by decide +kernel
theorem dX1_tryNext_28 : decode cX1_tryNext 28 = .ok (.iload_n 1, 1) := by decide +kernel
theorem dX1_tryNext_29 : decode cX1_tryNext 29 = .ok (.iaload, 1) := by decide +kernel
theorem dX1_tryNext_30 : decode cX1_tryNext 30 = .ok (.invokestatic 67, 3) := by decide +kernel
theorem dX1_tryNext_33 : decode cX1_tryNext 33 = .ok (.aload_n 0, 1) := by decide +kernel
theorem dX1_tryNext_34 : decode cX1_tryNext 34 = .ok (.getfield 18, 3) := by decide +kernel
theorem dX1_tryNext_37 : decode cX1_tryNext 37 = .ok (.iload_n 1, 1) := by decide +kernel
theorem dX1_tryNext_38 : decode cX1_tryNext 38 = .ok (.iaload, 1) := by decide +kernel
theorem dX1_tryNext_39 : decode cX1_tryNext 39 = .ok (.iadd, 1) := by decide +kernel
theorem dX1_tryNext_40 : decode cX1_tryNext 40 = .ok (.istore 8, 2) := by decide +kernel
theorem dX1_tryNext_42 : decode cX1_tryNext 42 = .ok (.iload 8, 2) := by decide +kernel
theorem dX1_tryNext_44 : decode cX1_tryNext 44 = .ok (.aload_n 0, 1) := by decide +kernel
theorem dX1_tryNext_45 : decode cX1_tryNext 45 = .ok (.getfield 21, 3) := by decide +kernel
theorem dX1_tryNext_48 : decode cX1_tryNext 48 = .ok (.iload_n 1, 1) := by decide +kernel
theorem dX1_tryNext_49 : decode cX1_tryNext 49 = .ok (.iaload, 1) := by decide +kernel
theorem dX1_tryNext_50 : decode cX1_tryNext 50 = .ok (.iadd, 1) := by decide +kernel
theorem dX1_tryNext_51 : decode cX1_tryNext 51 = .ok (.istore 9, 2) := by decide +kernel
theorem dX1_tryNext_53 : decode cX1_tryNext 53 = .ok (.lload 4, 2) := by decide +kernel
theorem dX1_tryNext_55 : decode cX1_tryNext 55 = .ok (.aload_n 0, 1) := by decide +kernel
theorem dX1_tryNext_56 : decode cX1_tryNext 56 = .ok (.getfield 24, 3) := by decide +kernel
theorem dX1_tryNext_59 : decode cX1_tryNext 59 = .ok (.iload_n 1, 1) := by decide +kernel
theorem dX1_tryNext_60 : decode cX1_tryNext 60 = .ok (.iaload, 1) := by decide +kernel
theorem dX1_tryNext_61 : decode cX1_tryNext 61 = .ok (.i2l, 1) := by decide +kernel
theorem dX1_tryNext_62 : decode cX1_tryNext 62 = .ok (.iload 9, 2) := by decide +kernel
theorem dX1_tryNext_64 : decode cX1_tryNext 64 = .ok (.i2l, 1) := by decide +kernel
theorem dX1_tryNext_65 : decode cX1_tryNext 65 = .ok (.lmul, 1) := by decide +kernel
theorem dX1_tryNext_66 : decode cX1_tryNext 66 = .ok (.ladd, 1) := by decide +kernel
theorem dX1_tryNext_67 : decode cX1_tryNext 67 = .ok (.lstore 10, 2) := by decide +kernel
theorem dX1_tryNext_69 : decode cX1_tryNext 69 = .ok (.lload 10, 2) := by decide +kernel
theorem dX1_tryNext_71 : decode cX1_tryNext 71 = .ok (.aload_n 0, 1) := by decide +kernel
theorem dX1_tryNext_72 : decode cX1_tryNext 72 = .ok (.getfield 44, 3) := by decide +kernel
theorem dX1_tryNext_75 : decode cX1_tryNext 75 = .ok (.lcmp, 1) := by decide +kernel
theorem dX1_tryNext_76 : decode cX1_tryNext 76 = .ok (.ifCond .lt 4, 3) := by decide +kernel
theorem dX1_tryNext_79 : decode cX1_tryNext 79 = .ok (.return_, 1) := by decide +kernel
theorem dX1_tryNext_80 : decode cX1_tryNext 80 = .ok (.aload_n 0, 1) := by decide +kernel
theorem dX1_tryNext_81 : decode cX1_tryNext 81 = .ok (.getfield 31, 3) := by decide +kernel
theorem dX1_tryNext_84 : decode cX1_tryNext 84 = .ok (.iload_n 2, 1) := by decide +kernel
theorem dX1_tryNext_85 : decode cX1_tryNext 85 = .ok (.iload_n 1, 1) := by decide +kernel
theorem dX1_tryNext_86 : decode cX1_tryNext 86 = .ok (.iastore, 1) := by decide +kernel
theorem dX1_tryNext_87 : decode cX1_tryNext 87 = .ok (.aload_n 0, 1) := by decide +kernel
theorem dX1_tryNext_88 : decode cX1_tryNext 88 = .ok (.getfield 27, 3) := by decide +kernel
theorem dX1_tryNext_91 : decode cX1_tryNext 91 = .ok (.iload_n 1, 1) := by decide +kernel
theorem dX1_tryNext_92 : decode cX1_tryNext 92 = .ok (.iconst 1, 1) := by decide +kernel
theorem dX1_tryNext_93 : decode cX1_tryNext 93 = .ok (.bastore, 1) := by decide +kernel
theorem dX1_tryNext_94 : decode cX1_tryNext 94 = .ok (.aload_n 0, 1) := by decide +kernel
theorem dX1_tryNext_95 : decode cX1_tryNext 95 = .ok (.getfield 37, 3) := by decide +kernel
theorem dX1_tryNext_98 : decode cX1_tryNext 98 = .ok (.iload 6, 2) := by decide +kernel
theorem dX1_tryNext_100 : decode cX1_tryNext 100 = .ok (.iload 9, 2) := by decide +kernel
theorem dX1_tryNext_102 : decode cX1_tryNext 102 = .ok (.iastore, 1) := by decide +kernel
theorem dX1_tryNext_103 : decode cX1_tryNext 103 = .ok (.aload_n 0, 1) := by decide +kernel
theorem dX1_tryNext_104 : decode cX1_tryNext 104 = .ok (.iload_n 2, 1) := by decide +kernel
theorem dX1_tryNext_105 : decode cX1_tryNext 105 = .ok (.iconst 1, 1) := by decide +kernel
theorem dX1_tryNext_106 : decode cX1_tryNext 106 = .ok (.iadd, 1) := by decide +kernel
theorem dX1_tryNext_107 : decode cX1_tryNext 107 = .ok (.iload 8, 2) := by decide +kernel
theorem dX1_tryNext_109 : decode cX1_tryNext 109 = .ok (.lload 10, 2) := by decide +kernel
theorem dX1_tryNext_111 : decode cX1_tryNext 111 = .ok (.invokevirtual 55, 3) := by decide +kernel
theorem dX1_tryNext_114 : decode cX1_tryNext 114 = .ok (.aload_n 0, 1) := by decide +kernel
theorem dX1_tryNext_115 : decode cX1_tryNext 115 = .ok (.getfield 37, 3) := by decide +kernel
theorem dX1_tryNext_118 : decode cX1_tryNext 118 = .ok (.iload 6, 2) := by decide +kernel
theorem dX1_tryNext_120 : decode cX1_tryNext 120 = .ok (.iload 7, 2) := by decide +kernel
theorem dX1_tryNext_122 : decode cX1_tryNext 122 = .ok (.iastore, 1) := by decide +kernel
theorem dX1_tryNext_123 : decode cX1_tryNext 123 = .ok (.aload_n 0, 1) := by decide +kernel
theorem dX1_tryNext_124 : decode cX1_tryNext 124 = .ok (.getfield 27, 3) := by decide +kernel
theorem dX1_tryNext_127 : decode cX1_tryNext 127 = .ok (.iload_n 1, 1) := by decide +kernel
theorem dX1_tryNext_128 : decode cX1_tryNext 128 = .ok (.iconst 0, 1) := by decide +kernel
theorem dX1_tryNext_129 : decode cX1_tryNext 129 = .ok (.bastore, 1) := by decide +kernel
theorem dX1_tryNext_130 : decode cX1_tryNext 130 = .ok (.return_, 1) := by decide +kernel
theorem dX1_keepTried_0 : decode cX1_keepTried 0 = .ok (.aload_n 0, 1) := by decide +kernel
theorem dX1_keepTried_1 : decode cX1_keepTried 1 = .ok (.lload_n 1, 1) := by decide +kernel
theorem dX1_keepTried_2 : decode cX1_keepTried 2 = .ok (.putfield 44, 3) := by decide +kernel
theorem dX1_keepTried_5 : decode cX1_keepTried 5 = .ok (.iconst 0, 1) := by decide +kernel
theorem dX1_keepTried_6 : decode cX1_keepTried 6 = .ok (.istore_n 3, 1) := by decide +kernel
theorem dX1_keepTried_7 : decode cX1_keepTried 7 = .ok (.iload_n 3, 1) := by decide +kernel
theorem dX1_keepTried_8 : decode cX1_keepTried 8 = .ok (.aload_n 0, 1) := by decide +kernel
theorem dX1_keepTried_9 : decode cX1_keepTried 9 = .ok (.getfield 48, 3) := by decide +kernel
theorem dX1_keepTried_12 : decode cX1_keepTried 12 = .ok (.if_icmp .ge 21, 3) := by decide +kernel
theorem dX1_keepTried_15 : decode cX1_keepTried 15 = .ok (.aload_n 0, 1) := by decide +kernel
theorem dX1_keepTried_16 : decode cX1_keepTried 16 = .ok (.getfield 34, 3) := by decide +kernel
theorem dX1_keepTried_19 : decode cX1_keepTried 19 = .ok (.iload_n 3, 1) := by decide +kernel
theorem dX1_keepTried_20 : decode cX1_keepTried 20 = .ok (.aload_n 0, 1) := by decide +kernel
theorem dX1_keepTried_21 : decode cX1_keepTried 21 = .ok (.getfield 31, 3) := by decide +kernel
theorem dX1_keepTried_24 : decode cX1_keepTried 24 = .ok (.iload_n 3, 1) := by decide +kernel
theorem dX1_keepTried_25 : decode cX1_keepTried 25 = .ok (.iaload, 1) := by decide +kernel
theorem dX1_keepTried_26 : decode cX1_keepTried 26 = .ok (.iastore, 1) := by decide +kernel
theorem dX1_keepTried_27 : decode cX1_keepTried 27 = .ok (.iinc 3 1, 3) := by decide +kernel
theorem dX1_keepTried_30 : decode cX1_keepTried 30 = .ok (.goto (-23), 3) := by decide +kernel
theorem dX1_keepTried_33 : decode cX1_keepTried 33 = .ok (.return_, 1) := by decide +kernel
