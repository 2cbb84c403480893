theorem dX2_init_0 : decode cX2_init 0 = .ok (.aload_n 0, 1) := by decide +kernel
theorem dX2_init_1 : decode cX2_init 1 = .ok (.invokespecial 3, 3) := by decide +kernel
theorem dX2_init_4 : decode cX2_init 4 = .ok (.aload_n 0, 1) := by decide +kernel
theorem dX2_init_5 : decode cX2_init 5 = .ok (.bipush 100, 2) := by decide +kernel
theorem dX2_init_7 : decode cX2_init 7 = .ok (.newarray .byte, 2) := by decide +kernel
theorem dX2_init_9 : decode cX2_init 9 = .ok (.putfield 9, 3) := by decide +kernel
theorem dX2_init_12 : decode cX2_init 12 = .ok (.aload_n 0, 1) := by decide +kernel
theorem dX2_init_13 : decode cX2_init 13 = .ok (.iconst 4, 1) := by decide +kernel
theorem dX2_init_14 : decode cX2_init 14 = .ok (.newarray .int, 2) := by decide +kernel
theorem dX2_init_16 : decode cX2_init 16 = .ok (.putfield 15, 3) := by decide +kernel
theorem dX2_init_19 : decode cX2_init 19 = .ok (.aload_n 0, 1) := by decide +kernel
theorem dX2_init_20 : decode cX2_init 20 = .ok (.iconst 0, 1) := by decide +kernel
theorem dX2_init_21 : decode cX2_init 21 = .ok (.putfield 19, 3) := by decide +kernel
theorem dX2_init_24 : decode cX2_init 24 = .ok (.aload_n 0, 1) := by decide +kernel
theorem dX2_init_25 : decode cX2_init 25 = .ok (.iconst 0, 1) := by decide +kernel
theorem dX2_init_26 : decode cX2_init 26 = .ok (.putfield 23, 3) := by decide +kernel
theorem dX2_init_29 : decode cX2_init 29 = .ok (.aload_n 0, 1) := by decide +kernel
theorem dX2_init_30 : decode cX2_init 30 = .ok (.iconst 0, 1) := by decide +kernel
theorem dX2_init_31 : decode cX2_init 31 = .ok (.putfield 26, 3) := by decide +kernel
theorem dX2_init_34 : decode cX2_init 34 = .ok (.aload_n 0, 1) := by decide +kernel
theorem dX2_init_35 : decode cX2_init 35 = .ok (.iconst (-1), 1) := by decide +kernel
theorem dX2_init_36 : decode cX2_init 36 = .ok (.putfield 29, 3) := by decide +kernel
theorem dX2_init_39 : decode cX2_init 39 = .ok (.aload_n 0, 1) := by decide +kernel
theorem dX2_init_40 : decode cX2_init 40 = .ok (.iconst 0, 1) := by decide +kernel
theorem dX2_init_41 : decode cX2_init 41 = .ok (.putfield 32, 3) := by decide +kernel
theorem dX2_init_44 : decode cX2_init 44 = .ok (.return_, 1) := by decide +kernel
theorem dX2_take_0 : decode cX2_take 0 = .ok (.bipush 24, 2) := by decide +kernel
theorem dX2_take_2 : decode cX2_take 2 = .ok (.istore_n 2, 1) := by decide +kernel
theorem dX2_take_3 : decode cX2_take 3 = .ok (.iload_n 2, 1) := by decide +kernel
theorem dX2_take_4 : decode cX2_take 4 = .ok (.ifCond .lt 41, 3) := by decide +kernel
theorem dX2_take_7 : decode cX2_take 7 = .ok (.aload_n 0, 1) := by decide +kernel
theorem dX2_take_8 : decode cX2_take 8 = .ok (.getfield 32, 3) := by decide +kernel
theorem dX2_take_11 : decode cX2_take 11 = .ok (.bipush 100, 2) := by decide +kernel
theorem dX2_take_13 : decode cX2_take 13 = .ok (.if_icmp .ge 32, 3) := by decide +kernel
theorem dX2_take_16 : decode cX2_take 16 = .ok (.aload_n 0, 1) := by decide +kernel
theorem dX2_take_17 : decode cX2_take 17 = .ok (.getfield 9, 3) := by decide +kernel
theorem dX2_take_20 : decode cX2_take 20 = .ok (.aload_n 0, 1) := by decide +kernel
theorem dX2_take_21 : decode cX2_take 21 = .ok (.getfield 32, 3) := by decide +kernel
theorem dX2_take_24 : decode cX2_take 24 = .ok (.iload_n 1, 1) := by decide +kernel
theorem dX2_take_25 : decode cX2_take 25 = .ok (.iload_n 2, 1) := by decide +kernel
theorem dX2_take_26 : decode cX2_take 26 = .ok (.iushr, 1) := by decide +kernel
theorem dX2_take_27 : decode cX2_take 27 = .ok (.i2b, 1) := by decide +kernel
theorem dX2_take_28 : decode cX2_take 28 = .ok (.bastore, 1) := by decide +kernel
theorem dX2_take_29 : decode cX2_take 29 = .ok (.aload_n 0, 1) := by decide +kernel
theorem dX2_take_30 : decode cX2_take 30 = .ok (.dup, 1) := by decide +kernel
theorem dX2_take_31 : decode cX2_take 31 = .ok (.getfield 32, 3) := by decide +kernel
theorem dX2_take_34 : decode cX2_take 34 = .ok (.iconst 1, 1) := by decide +kernel
theorem dX2_take_35 : decode cX2_take 35 = .ok (.iadd, 1) := by decide +kernel
theorem dX2_take_36 : decode cX2_take 36 = .ok (.putfield 32, 3) := by decide +kernel
theorem dX2_take_39 : decode cX2_take 39 = .ok (.iinc 2 (-8), 3) := by decide +kernel
theorem dX2_take_42 : decode cX2_take 42 = .ok (.goto (-39), 3) := by decide +kernel
theorem dX2_take_45 : decode cX2_take 45 = .ok (.return_, 1) := by decide +kernel
set_option maxRecDepth 20000 in
theorem ggX2_readHat_X2_startReading : GoodIn wsX2_readHat wsX2_startReading := goodIn_r _ [8, 3, 9, 1, 10, 2, 102, 103, 104, 105, 106, 107, 108] (by decide +kernel) (by decide +kernel)
set_option maxRecDepth 20000 in
theorem gX2_readHat_X2_startReading : GoodIn wsX2_readHat (wsV RX2 35 RX2 yX2_startReading wsX2_startReading) := goodIn_app (goodIn_of _ (by decide +kernel)) ggX2_readHat_X2_startReading
set_option maxRecDepth 20000 in
theorem ggX2_readHat_X2_readPart : GoodIn wsX2_readHat wsX2_readPart := goodIn_r _ [14, 9, 2, 15, 16, 17, 18, 19, 7, 20, 3, 21, 22, 23, 24, 25, 26, 27, 28, 29, 30, 31, 32, 33, 34, 35, 36, 37, 38, 39, 40, 41, 42, 43, 44, 45, 46, 47, 48, 49, 50, 51, 52, 53, 54, 55, 56, 57, 58, 59, 60, 61, 62, 63, 64, 65, 66, 67, 68, 69, 70, 71, 72, 73, 74, 75, 76, 77, 78, 79, 80, 81, 82, 83, 84, 85, 86, 87, 88, 89, 1, 10, 90, 91, 92, 93, 94, 95, 96, 97, 102, 103, 104, 105, 106, 107, 108] (by decide +kernel) (by decide +kernel)
set_option maxRecDepth 20000 in
theorem gX2_readHat_X2_readPart : GoodIn wsX2_readHat (wsV RX2 39 RX2 yX2_readPart wsX2_readPart) := goodIn_app (goodIn_of _ (by decide +kernel)) ggX2_readHat_X2_readPart
set_option maxRecDepth 20000 in
theorem ggX2_readHat_X2_readComma : GoodIn wsX2_readHat wsX2_readComma := goodIn_r _ [101, 9, 3, 21, 17, 18, 19, 7, 20, 86, 87, 88, 89, 1, 10, 102, 103, 104, 105, 106, 107, 108] (by decide +kernel) (by decide +kernel)
set_option maxRecDepth 20000 in
theorem gX2_readHat_X2_readComma : GoodIn wsX2_readHat (wsV RX2 43 RX2 yX2_readComma wsX2_readComma) := goodIn_app (goodIn_of _ (by decide +kernel)) ggX2_readHat_X2_readComma
set_option maxRecDepth 20000 in
theorem ggX2_readHat_X2_blame : GoodIn wsX2_readHat wsX2_blame := goodIn_r _ [89, 1, 10, 102, 103, 104, 105, 106, 107, 108] (by decide +kernel) (by decide +kernel)
set_option maxRecDepth 20000 in
theorem gX2_readHat_X2_blame : GoodIn wsX2_readHat (wsV RX2 46 RX2 yX2_blame wsX2_blame) := goodIn_app (goodIn_of _ (by decide +kernel)) ggX2_readHat_X2_blame
theorem dX2_readHat_0 : decode cX2_readHat 0 = .ok (.aload_n 0, 1) := by decide +kernel
theorem dX2_readHat_1 : decode cX2_readHat 1 = .ok (.iload_n 1, 1) := by decide +kernel
theorem dX2_readHat_2 : decode cX2_readHat 2 = .ok (.invokevirtual 35, 3) := by decide +kernel
theorem dX2_readHat_5 : decode cX2_readHat 5 = .ok (.iconst 1, 1) := by decide +kernel
theorem dX2_readHat_6 : decode cX2_readHat 6 = .ok (.istore_n 2, 1) := by decide +kernel
theorem dX2_readHat_7 : decode cX2_readHat 7 = .ok (.iconst 0, 1) := by decide +kernel
theorem dX2_readHat_8 : decode cX2_readHat 8 = .ok (.istore_n 3, 1) := by decide +kernel
theorem dX2_readHat_9 : decode cX2_readHat 9 = .ok (.iload_n 3, 1) := by decide +kernel
theorem dX2_readHat_10 : decode cX2_readHat 10 = .ok (.iconst 4, 1) := by decide +kernel
theorem dX2_readHat_11 : decode cX2_readHat 11 = .ok (.if_icmp .gt 33, 3) := by decide +kernel
theorem dX2_readHat_14 : decode cX2_readHat 14 = .ok (.iload_n 2, 1) := by decide +kernel
theorem dX2_readHat_15 : decode cX2_readHat 15 = .ok (.ifCond .eq 29, 3) := by decide +kernel
theorem dX2_readHat_18 : decode cX2_readHat 18 = .ok (.aload_n 0, 1) := by decide +kernel
theorem dX2_readHat_19 : decode cX2_readHat 19 = .ok (.invokevirtual 39, 3) := by decide +kernel
theorem dX2_readHat_22 : decode cX2_readHat 22 = .ok (.ifCond .eq 14, 3) := by decide +kernel
theorem dX2_readHat_25 : decode cX2_readHat 25 = .ok (.aload_n 0, 1) := by decide +kernel
theorem dX2_readHat_26 : decode cX2_readHat 26 = .ok (.invokevirtual 43, 3) := by decide +kernel
theorem dX2_readHat_29 : decode cX2_readHat 29 = .ok (.ifCond .eq 7, 3) := by decide +kernel
theorem dX2_readHat_32 : decode cX2_readHat 32 = .ok (.iconst 1, 1) := by decide +kernel
theorem dX2_readHat_33 : decode cX2_readHat 33 = .ok (.goto 4, 3) := by decide +kernel
theorem dX2_readHat_36 : decode cX2_readHat 36 = .ok (.iconst 0, 1) := by decide +kernel
theorem dX2_readHat_37 : decode cX2_readHat 37 = .ok (.istore_n 2, 1) := by decide +kernel
theorem dX2_readHat_38 : decode cX2_readHat 38 = .ok (.iinc 3 1, 3) := by decide +kernel
theorem dX2_readHat_41 : decode cX2_readHat 41 = .ok (.goto (-32), 3) := by decide +kernel
theorem dX2_readHat_44 : decode cX2_readHat 44 = .ok (.aload_n 0, 1) := by decide +kernel
theorem dX2_readHat_45 : decode cX2_readHat 45 = .ok (.getfield 26, 3) := by decide +kernel
theorem dX2_readHat_48 : decode cX2_readHat 48 = .ok (.ifCond .ne 32, 3) := by decide +kernel
theorem dX2_readHat_51 : decode cX2_readHat 51 = .ok (.aload_n 0, 1) := by decide +kernel
theorem dX2_readHat_52 : decode cX2_readHat 52 = .ok (.getfield 15, 3) := by decide +kernel
theorem dX2_readHat_55 : decode cX2_readHat 55 = .ok (.iconst 0, 1) := by decide +kernel
theorem dX2_readHat_56 : decode cX2_readHat 56 = .ok (.iaload, 1) := by decide +kernel
theorem dX2_readHat_57 : decode cX2_readHat 57 = .ok (.iconst (-1), 1) := by decide +kernel
theorem dX2_readHat_58 : decode cX2_readHat 58 = .ok (.if_icmp .eq 13, 3) := by decide +kernel
theorem dX2_readHat_61 : decode cX2_readHat 61 = .ok (.aload_n 0, 1) := by decide +kernel
theorem dX2_readHat_62 : decode cX2_readHat 62 = .ok (.getfield 15, 3) := by decide +kernel
theorem dX2_readHat_65 : decode cX2_readHat 65 = .ok (.iconst 3, 1) := by decide +kernel
theorem dX2_readHat_66 : decode cX2_readHat 66 = .ok (.iaload, 1) := by decide +kernel
theorem dX2_readHat_67 : decode cX2_readHat 67 = .ok (.iconst (-1), 1) := by decide +kernel
theorem dX2_readHat_68 : decode cX2_readHat 68 = .ok (.if_icmp .ne 12, 3) := by decide +kernel
theorem dX2_readHat_71 : decode cX2_readHat 71 = .ok (.aload_n 0, 1) := by decide +kernel
theorem dX2_readHat_72 : decode cX2_readHat 72 = .ok (.iconst 3, 1) := by decide +kernel
theorem dX2_readHat_73 : decode cX2_readHat 73 = .ok (.aload_n 0, 1) := by decide +kernel
theorem dX2_readHat_74 : decode cX2_readHat 74 = .ok (.getfield 19, 3) := by decide +kernel
theorem dX2_readHat_77 : decode cX2_readHat 77 = .ok (.invokevirtual 46, 3) := by decide +kernel
theorem dX2_readHat_80 : decode cX2_readHat 80 = .ok (.aload_n 0, 1) := by decide +kernel
theorem dX2_readHat_81 : decode cX2_readHat 81 = .ok (.getfield 26, 3) := by decide +kernel
theorem dX2_readHat_84 : decode cX2_readHat 84 = .ok (.ireturn, 1) := by decide +kernel
set_option maxRecDepth 20000 in
theorem ggX2_price_X2_valueOf : GoodIn wsX2_price wsX2_valueOf := goodIn_r _ [5, 6, 7, 8, 9, 10, 11, 12, 13] (by decide +kernel) (by decide +kernel)
set_option maxRecDepth 20000 in
theorem gX2_price_X2_valueOf : GoodIn wsX2_price (wsV RX2 50 RX2 yX2_valueOf wsX2_valueOf) := goodIn_app (goodIn_of _ (by decide +kernel)) ggX2_price_X2_valueOf
theorem dX2_price_0 : decode cX2_price 0 = .ok (.aload_n 0, 1) := by decide +kernel
theorem dX2_price_1 : decode cX2_price 1 = .ok (.iconst 3, 1) := by decide +kernel
theorem dX2_price_2 : decode cX2_price 2 = .ok (.invokevirtual 50, 3) := by decide +kernel
theorem dX2_price_5 : decode cX2_price 5 = .ok (.istore_n 1, 1) := by decide +kernel
theorem dX2_price_6 : decode cX2_price 6 = .ok (.iconst 4, 1) := by decide +kernel
theorem dX2_price_7 : decode cX2_price 7 = .ok (.aload_n 0, 1) := by decide +kernel
theorem dX2_price_8 : decode cX2_price 8 = .ok (.iconst 0, 1) := by decide +kernel
theorem dX2_price_9 : decode cX2_price 9 = .ok (.invokevirtual 50, 3) := by decide +kernel
theorem dX2_price_12 : decode cX2_price 12 = .ok (.imul, 1) := by decide +kernel
theorem dX2_price_13 : decode cX2_price 13 = .ok (.iload_n 1, 1) := by decide +kernel
theorem dX2_price_14 : decode cX2_price 14 = .ok (.imul, 1) := by decide +kernel
theorem dX2_price_15 : decode cX2_price 15 = .ok (.iconst 3, 1) := by decide +kernel
theorem dX2_price_16 : decode cX2_price 16 = .ok (.aload_n 0, 1) := by decide +kernel
theorem dX2_price_17 : decode cX2_price 17 = .ok (.iconst 1, 1) := by decide +kernel
theorem dX2_price_18 : decode cX2_price 18 = .ok (.invokevirtual 50, 3) := by decide +kernel
theorem dX2_price_21 : decode cX2_price 21 = .ok (.imul, 1) := by decide +kernel
theorem dX2_price_22 : decode cX2_price 22 = .ok (.iload_n 1, 1) := by decide +kernel
theorem dX2_price_23 : decode cX2_price 23 = .ok (.imul, 1) := by decide +kernel
theorem dX2_price_24 : decode cX2_price 24 = .ok (.iadd, 1) := by decide +kernel
theorem dX2_price_25 : decode cX2_price 25 = .ok (.bipush 10, 2) := by decide +kernel
theorem dX2_price_27 : decode cX2_price 27 = .ok (.aload_n 0, 1) := by decide +kernel
theorem dX2_price_28 : decode cX2_price 28 = .ok (.iconst 2, 1) := by decide +kernel
theorem dX2_price_29 : decode cX2_price 29 = .ok (.invokevirtual 50, 3) := by decide +kernel
theorem dX2_price_32 : decode cX2_price 32 = .ok (.imul, 1) := by decide +kernel
theorem dX2_price_33 : decode cX2_price 33 = .ok (.iadd, 1) := by decide +kernel
theorem dX2_price_34 : decode cX2_price 34 = .ok (.ireturn, 1) := by decide +kernel
set_option maxRecDepth 20000 in
theorem ggX2_steamMinutes_X2_valueOf : GoodIn wsX2_steamMinutes wsX2_valueOf := goodIn_r _ [5, 6, 7, 8, 9, 10, 11, 12, 13] (by decide +kernel) (by decide +kernel)
set_option maxRecDepth 20000 in
theorem gX2_steamMinutes_X2_valueOf : GoodIn wsX2_steamMinutes (wsV RX2 50 RX2 yX2_valueOf wsX2_valueOf) := goodIn_app (goodIn_of _ (by decide +kernel)) ggX2_steamMinutes_X2_valueOf
theorem dX2_steamMinutes_0 : decode cX2_steamMinutes 0 = .ok (.bipush 6, 2) := by decide +kernel
theorem dX2_steamMinutes_2 : decode cX2_steamMinutes 2 = .ok (.aload_n 0, 1) := by decide +kernel
theorem dX2_steamMinutes_3 : decode cX2_steamMinutes 3 = .ok (.iconst 3, 1) := by decide +kernel
theorem dX2_steamMinutes_4 : decode cX2_steamMinutes 4 = .ok (.invokevirtual 50, 3) := by decide +kernel
theorem dX2_steamMinutes_7 : decode cX2_steamMinutes 7 = .ok (.imul, 1) := by decide +kernel
theorem dX2_steamMinutes_8 : decode cX2_steamMinutes 8 = .ok (.aload_n 0, 1) := by decide +kernel
theorem dX2_steamMinutes_9 : decode cX2_steamMinutes 9 = .ok (.iconst 1, 1) := by decide +kernel
theorem dX2_steamMinutes_10 : decode cX2_steamMinutes 10 = .ok (.invokevirtual 50, 3) := by decide +kernel
theorem dX2_steamMinutes_13 : decode cX2_steamMinutes 13 = .ok (.iadd, 1) := by decide +kernel
theorem dX2_steamMinutes_14 : decode cX2_steamMinutes 14 = .ok (.ireturn, 1) := by decide +kernel
set_option maxRecDepth 20000 in
theorem ggX2_onMinutes_X2_valueOf : GoodIn wsX2_onMinutes wsX2_valueOf := goodIn_r _ [5, 6, 7, 8, 9, 10, 11, 12, 13] (by decide +kernel) (by decide +kernel)
set_option maxRecDepth 20000 in
theorem gX2_onMinutes_X2_valueOf : GoodIn wsX2_onMinutes (wsV RX2 50 RX2 yX2_valueOf wsX2_valueOf) := goodIn_app (goodIn_of _ (by decide +kernel)) ggX2_onMinutes_X2_valueOf
theorem dX2_onMinutes_0 : decode cX2_onMinutes 0 = .ok (.bipush 10, 2) := by decide +kernel
theorem dX2_onMinutes_2 : decode cX2_onMinutes 2 = .ok (.aload_n 0, 1) := by decide +kernel
theorem dX2_onMinutes_3 : decode cX2_onMinutes 3 = .ok (.iconst 0, 1) := by decide +kernel
theorem dX2_onMinutes_4 : decode cX2_onMinutes 4 = .ok (.invokevirtual 50, 3) := by decide +kernel
theorem dX2_onMinutes_7 : decode cX2_onMinutes 7 = .ok (.iadd, 1) := by decide +kernel
theorem dX2_onMinutes_8 : decode cX2_onMinutes 8 = .ok (.bipush 20, 2) := by decide +kernel
theorem dX2_onMinutes_10 : decode cX2_onMinutes 10 = .ok (.aload_n 0, 1) := by decide +kernel
theorem dX2_onMinutes_11 : decode cX2_onMinutes 11 = .ok (.iconst 3, 1) := by decide +kernel
theorem dX2_onMinutes_12 : decode cX2_onMinutes 12 = .ok (.invokevirtual 50, 3) := by decide +kernel
theorem dX2_onMinutes_15 : decode cX2_onMinutes 15 = .ok (.imul, 1) := by decide +kernel
theorem dX2_onMinutes_16 : decode cX2_onMinutes 16 = .ok (.iadd, 1) := by decide +kernel
theorem dX2_onMinutes_17 : decode cX2_onMinutes 17 = .ok (.ireturn, 1) := by decide +kernel
theorem dX2_valueOf_0 : decode cX2_valueOf 0 = .ok (.aload_n 0, 1) := by decide +kernel
theorem dX2_valueOf_1 : decode cX2_valueOf 1 = .ok (.getfield 15, 3) := by decide +kernel
theorem dX2_valueOf_4 : decode cX2_valueOf 4 = .ok (.iload_n 1, 1) := by decide +kernel
theorem dX2_valueOf_5 : decode cX2_valueOf 5 = .ok (.iaload, 1) := by decide +kernel
theorem dX2_valueOf_6 : decode cX2_valueOf 6 = .ok (.iconst (-1), 1) := by decide +kernel
theorem dX2_valueOf_7 : decode cX2_valueOf 7 = .ok (.if_icmp .ne 7, 3) := by decide +kernel
theorem dX2_valueOf_10 : decode cX2_valueOf 10 = .ok (.iconst 0, 1) := by decide +kernel
theorem dX2_valueOf_11 : decode cX2_valueOf 11 = .ok (.goto 9, 3) := by decide +kernel
theorem dX2_valueOf_14 : decode cX2_valueOf 14 = .ok (.aload_n 0, 1) := by decide +kernel
theorem dX2_valueOf_15 : decode cX2_valueOf 15 = .ok (.getfield 15, 3) := by decide +kernel
theorem dX2_valueOf_18 : decode cX2_valueOf 18 = .ok (.iload_n 1, 1) := by decide +kernel
theorem dX2_valueOf_19 : decode cX2_valueOf 19 = .ok (.iaload, 1) := by decide +kernel
theorem dX2_valueOf_20 : decode cX2_valueOf 20 = .ok (.ireturn, 1) := by decide +kernel
theorem dX2_startReading_0 : decode cX2_startReading 0 = .ok (.aload_n 0, 1) := by decide +kernel
theorem dX2_startReading_1 : decode cX2_startReading 1 = .ok (.iload_n 1, 1) := by decide +kernel
theorem dX2_startReading_2 : decode cX2_startReading 2 = .ok (.putfield 19, 3) := by decide +kernel
theorem dX2_startReading_5 : decode cX2_startReading 5 = .ok (.aload_n 0, 1) := by decide +kernel
theorem dX2_startReading_6 : decode cX2_startReading 6 = .ok (.iconst 0, 1) := by decide +kernel
theorem dX2_startReading_7 : decode cX2_startReading 7 = .ok (.putfield 23, 3) := by decide +kernel
theorem dX2_startReading_10 : decode cX2_startReading 10 = .ok (.aload_n 0, 1) := by decide +kernel
theorem dX2_startReading_11 : decode cX2_startReading 11 = .ok (.iconst 0, 1) := by decide +kernel
theorem dX2_startReading_12 : decode cX2_startReading 12 = .ok (.putfield 26, 3) := by decide +kernel
theorem dX2_startReading_15 : decode cX2_startReading 15 = .ok (.aload_n 0, 1) := by decide +kernel
theorem dX2_startReading_16 : decode cX2_startReading 16 = .ok (.iconst (-1), 1) := by decide +kernel
theorem dX2_startReading_17 : decode cX2_startReading 17 = .ok (.putfield 29, 3) := by decide +kernel
theorem dX2_startReading_20 : decode cX2_startReading 20 = .ok (.iconst 0, 1) := by decide +kernel
theorem dX2_startReading_21 : decode cX2_startReading 21 = .ok (.istore_n 2, 1) := by decide +kernel
theorem dX2_startReading_22 : decode cX2_startReading 22 = .ok (.iload_n 2, 1) := by decide +kernel
theorem dX2_startReading_23 : decode cX2_startReading 23 = .ok (.iconst 4, 1) := by decide +kernel
theorem dX2_startReading_24 : decode cX2_startReading 24 = .ok (.if_icmp .ge 16, 3) := by decide +kernel
theorem dX2_startReading_27 : decode cX2_startReading 27 = .ok (.aload_n 0, 1) := by decide +kernel
theorem dX2_startReading_28 : decode cX2_startReading 28 = .ok (.getfield 15, 3) := by decide +kernel
theorem dX2_startReading_31 : decode cX2_startReading 31 = .ok (.iload_n 2, 1) := by decide +kernel
theorem dX2_startReading_32 : decode cX2_startReading 32 = .ok (.iconst (-1), 1) := by decide +kernel
theorem dX2_startReading_33 : decode cX2_startReading 33 = .ok (.iastore, 1) := by decide +kernel
theorem dX2_startReading_34 : decode cX2_startReading 34 = .ok (.iinc 2 1, 3) := by decide +kernel
theorem dX2_startReading_37 : decode cX2_startReading 37 = .ok (.goto (-15), 3) := by decide +kernel
theorem dX2_startReading_40 : decode cX2_startReading 40 = .ok (.return_, 1) := by decide +kernel
theorem dX2_blame_0 : decode cX2_blame 0 = .ok (.aload_n 0, 1) := by decide +kernel
theorem dX2_blame_1 : decode cX2_blame 1 = .ok (.iload_n 1, 1) := by decide +kernel
theorem dX2_blame_2 : decode cX2_blame 2 = .ok (.putfield 26, 3) := by decide +kernel
theorem dX2_blame_5 : decode cX2_blame 5 = .ok (.aload_n 0, 1) := by decide +kernel
theorem dX2_blame_6 : decode cX2_blame 6 = .ok (.iload_n 2, 1) := by decide +kernel
theorem dX2_blame_7 : decode cX2_blame 7 = .ok (.putfield 29, 3) := by decide +kernel
theorem dX2_blame_10 : decode cX2_blame 10 = .ok (.return_, 1) := by decide +kernel
set_option maxRecDepth 20000 in
theorem ggX2_readPart_X2_skipBlanks : GoodIn wsX2_readPart wsX2_skipBlanks := goodIn_r _ [9, 1, 10, 11, 90, 91, 92, 93, 94, 95, 96] (by decide +kernel) (by decide +kernel)
set_option maxRecDepth 20000 in
theorem gX2_readPart_X2_skipBlanks : GoodIn wsX2_readPart (wsV RX2 54 RX2 yX2_skipBlanks wsX2_skipBlanks) := goodIn_app (goodIn_of _ (by decide +kernel)) ggX2_readPart_X2_skipBlanks
set_option maxRecDepth 20000 in
theorem ggX2_readPart_X2_skipLetters : GoodIn wsX2_readPart wsX2_skipLetters := goodIn_r _ [15, 1, 10, 11, 90, 91, 92, 93, 94, 95, 96] (by decide +kernel) (by decide +kernel)
set_option maxRecDepth 20000 in
theorem gX2_readPart_X2_skipLetters : GoodIn wsX2_readPart (wsV RX2 57 RX2 yX2_skipLetters wsX2_skipLetters) := goodIn_app (goodIn_of _ (by decide +kernel)) ggX2_readPart_X2_skipLetters
set_option maxRecDepth 20000 in
theorem ggX2_readPart_X2_partNamed : GoodIn wsX2_readPart wsX2_partNamed := goodIn_r _ [19, 20, 21, 8, 22, 23, 24, 25, 26, 1, 11, 27, 28, 29, 30, 31, 32, 33, 34, 35, 36, 37, 38, 39, 40, 41, 42, 43, 44, 45, 46, 47, 48, 49, 50, 51, 52, 53, 54, 55, 56, 57, 58, 59, 60, 61, 62, 63, 64, 65, 66, 67, 68, 69, 70, 71, 72, 73, 74, 75, 90, 91, 92, 93, 94, 95, 96] (by decide +kernel) (by decide +kernel)
set_option maxRecDepth 20000 in
theorem gX2_readPart_X2_partNamed : GoodIn wsX2_readPart (wsV RX2 60 RX2 yX2_partNamed wsX2_partNamed) := goodIn_app (goodIn_of _ (by decide +kernel)) ggX2_readPart_X2_partNamed
set_option maxRecDepth 20000 in
theorem ggX2_readPart_X2_blame : GoodIn wsX2_readPart wsX2_blame := goodIn_r _ [79, 80, 81, 90, 91, 92, 93, 94, 95, 96] (by decide +kernel) (by decide +kernel)
set_option maxRecDepth 20000 in
theorem gX2_readPart_X2_blame : GoodIn wsX2_readPart (wsV RX2 46 RX2 yX2_blame wsX2_blame) := goodIn_app (goodIn_of _ (by decide +kernel)) ggX2_readPart_X2_blame
set_option maxRecDepth 20000 in
theorem ggX2_readPart_X2_readNumber : GoodIn wsX2_readPart wsX2_readNumber := goodIn_r _ [85, 1, 10, 11, 86, 87, 88, 89, 90, 91, 92, 93, 94, 95, 96] (by decide +kernel) (by decide +kernel)
set_option maxRecDepth 20000 in
theorem gX2_readPart_X2_readNumber : GoodIn wsX2_readPart (wsV RX2 63 RX2 yX2_readNumber wsX2_readNumber) := goodIn_app (goodIn_of _ (by decide +kernel)) ggX2_readPart_X2_readNumber
theorem dX2_readPart_0 : decode cX2_readPart 0 = .ok (.aload_n 0, 1) := by decide +kernel
theorem dX2_readPart_1 : decode cX2_readPart 1 = .ok (.invokevirtual 54, 3) := by decide +kernel
theorem dX2_readPart_4 : decode cX2_readPart 4 = .ok (.aload_n 0, 1) := by decide +kernel
theorem dX2_readPart_5 : decode cX2_readPart 5 = .ok (.getfield 23, 3) := by decide +kernel
theorem dX2_readPart_8 : decode cX2_readPart 8 = .ok (.istore_n 1, 1) := by decide +kernel
theorem dX2_readPart_9 : decode cX2_readPart 9 = .ok (.aload_n 0, 1) := by decide +kernel
theorem dX2_readPart_10 : decode cX2_readPart 10 = .ok (.invokevirtual 57, 3) := by decide +kernel
theorem dX2_readPart_13 : decode cX2_readPart 13 = .ok (.aload_n 0, 1) := by decide +kernel
theorem dX2_readPart_14 : decode cX2_readPart 14 = .ok (.iload_n 1, 1) := by decide +kernel
theorem dX2_readPart_15 : decode cX2_readPart 15 = .ok (.invokevirtual 60, 3) := by decide +kernel
theorem dX2_readPart_18 : decode cX2_readPart 18 = .ok (.istore_n 2, 1) := by decide +kernel
theorem dX2_readPart_19 : decode cX2_readPart 19 = .ok (.iload_n 2, 1) := by decide +kernel
theorem dX2_readPart_20 : decode cX2_readPart 20 = .ok (.iconst (-1), 1) := by decide +kernel
theorem dX2_readPart_21 : decode cX2_readPart 21 = .ok (.if_icmp .eq 13, 3) := by decide +kernel
theorem dX2_readPart_24 : decode cX2_readPart 24 = .ok (.aload_n 0, 1) := by decide +kernel
theorem dX2_readPart_25 : decode cX2_readPart 25 = .ok (.getfield 15, 3) := by decide +kernel
theorem dX2_readPart_28 : decode cX2_readPart 28 = .ok (.iload_n 2, 1) := by decide +kernel
theorem dX2_readPart_29 : decode cX2_readPart 29 = .ok (.iaload, 1) := by decide +kernel
theorem dX2_readPart_30 : decode cX2_readPart 30 = .ok (.iconst (-1), 1) := by decide +kernel
theorem dX2_readPart_31 : decode cX2_readPart 31 = .ok (.if_icmp .eq 11, 3) := by decide +kernel
theorem dX2_readPart_34 : decode cX2_readPart 34 = .ok (.aload_n 0, 1) := by decide +kernel
theorem dX2_readPart_35 : decode cX2_readPart 35 = .ok (.iconst 1, 1) := by decide +kernel
theorem dX2_readPart_36 : decode cX2_readPart 36 = .ok (.iload_n 1, 1) := by decide +kernel
theorem dX2_readPart_37 : decode cX2_readPart 37 = .ok (.invokevirtual 46, 3) := by decide +kernel
theorem dX2_readPart_40 : decode cX2_readPart 40 = .ok (.iconst 0, 1) := by decide +kernel
theorem dX2_readPart_41 : decode cX2_readPart 41 = .ok (.ireturn, 1) := by decide +kernel
theorem dX2_readPart_42 : decode cX2_readPart 42 = .ok (.aload_n 0, 1) := by decide +kernel
theorem dX2_readPart_43 : decode cX2_readPart 43 = .ok (.invokevirtual 54, 3) := by decide +kernel
theorem dX2_readPart_46 : decode cX2_readPart 46 = .ok (.aload_n 0, 1) := by decide +kernel
theorem dX2_readPart_47 : decode cX2_readPart 47 = .ok (.getfield 23, 3) := by decide +kernel
theorem dX2_readPart_50 : decode cX2_readPart 50 = .ok (.istore_n 3, 1) := by decide +kernel
theorem dX2_readPart_51 : decode cX2_readPart 51 = .ok (.aload_n 0, 1) := by decide +kernel
theorem dX2_readPart_52 : decode cX2_readPart 52 = .ok (.invokevirtual 63, 3) := by decide +kernel
theorem dX2_readPart_55 : decode cX2_readPart 55 = .ok (.istore 4, 2) := by decide +kernel
theorem dX2_readPart_57 : decode cX2_readPart 57 = .ok (.aload_n 0, 1) := by decide +kernel
theorem dX2_readPart_58 : decode cX2_readPart 58 = .ok (.getfield 23, 3) := by decide +kernel
theorem dX2_readPart_61 : decode cX2_readPart 61 = .ok (.iload_n 3, 1) := by decide +kernel
theorem dX2_readPart_62 : decode cX2_readPart 62 = .ok (.if_icmp .ne 11, 3) := by decide +kernel
theorem dX2_readPart_65 : decode cX2_readPart 65 = .ok (.aload_n 0, 1) := by decide +kernel
theorem dX2_readPart_66 : decode cX2_readPart 66 = .ok (.iconst 1, 1) := by decide +kernel
theorem dX2_readPart_67 : decode cX2_readPart 67 = .ok (.iload_n 3, 1) := by decide +kernel
theorem dX2_readPart_68 : decode cX2_readPart 68 = .ok (.invokevirtual 46, 3) := by decide +kernel
theorem dX2_readPart_71 : decode cX2_readPart 71 = .ok (.iconst 0, 1) := by decide +kernel
theorem dX2_readPart_72 : decode cX2_readPart 72 = .ok (.ireturn, 1) := by decide +kernel
theorem dX2_readPart_73 : decode cX2_readPart 73 = .ok (.iload 4, 2) := by decide +kernel
theorem dX2_readPart_75 : decode cX2_readPart 75 = .ok (.getstatic 67, 3) := by decide +kernel
theorem dX2_readPart_78 : decode cX2_readPart 78 = .ok (.iload_n 2, 1) := by decide +kernel
theorem dX2_readPart_79 : decode cX2_readPart 79 = .ok (.iaload, 1) := by decide +kernel
theorem dX2_readPart_80 : decode cX2_readPart 80 = .ok (.if_icmp .lt 13, 3) := by decide +kernel
theorem dX2_readPart_83 : decode cX2_readPart 83 = .ok (.iload 4, 2) := by decide +kernel
theorem dX2_readPart_85 : decode cX2_readPart 85 = .ok (.getstatic 70, 3) := by decide +kernel
theorem dX2_readPart_88 : decode cX2_readPart 88 = .ok (.iload_n 2, 1) := by decide +kernel
theorem dX2_readPart_89 : decode cX2_readPart 89 = .ok (.iaload, 1) := by decide +kernel
theorem dX2_readPart_90 : decode cX2_readPart 90 = .ok (.if_icmp .le 11, 3) := by decide +kernel
theorem dX2_readPart_93 : decode cX2_readPart 93 = .ok (.aload_n 0, 1) := by decide +kernel
theorem dX2_readPart_94 : decode cX2_readPart 94 = .ok (.iconst 2, 1) := by decide +kernel
theorem dX2_readPart_95 : decode cX2_readPart 95 = .ok (.iload_n 3, 1) := by decide +kernel
theorem dX2_readPart_96 : decode cX2_readPart 96 = .ok (.invokevirtual 46, 3) := by decide +kernel
theorem dX2_readPart_99 : decode cX2_readPart 99 = .ok (.iconst 0, 1) := by decide +kernel
theorem dX2_readPart_100 : decode cX2_readPart 100 = .ok (.ireturn, 1) := by decide +kernel
theorem dX2_readPart_101 : decode cX2_readPart 101 = .ok (.aload_n 0, 1) := by decide +kernel
theorem dX2_readPart_102 : decode cX2_readPart 102 = .ok (.getfield 15, 3) := by decide +kernel
theorem dX2_readPart_105 : decode cX2_readPart 105 = .ok (.iload_n 2, 1) := by decide +kernel
theorem dX2_readPart_106 : decode cX2_readPart 106 = .ok (.iload 4, 2) := by decide +kernel
theorem dX2_readPart_108 : decode cX2_readPart 108 = .ok (.iastore, 1) := by decide +kernel
theorem dX2_readPart_109 : decode cX2_readPart 109 = .ok (.iconst 1, 1) := by decide +kernel
theorem dX2_readPart_110 : decode cX2_readPart 110 = .ok (.ireturn, 1) := by decide +kernel
set_option maxRecDepth 20000 in
theorem ggX2_readComma_X2_skipBlanks : GoodIn wsX2_readComma wsX2_skipBlanks := goodIn_r _ [8, 1, 2, 3, 15, 16, 17, 18, 19, 20, 21] (by decide +kernel) (by decide +kernel)
set_option maxRecDepth 20000 in
theorem gX2_readComma_X2_skipBlanks : GoodIn wsX2_readComma (wsV RX2 54 RX2 yX2_skipBlanks wsX2_skipBlanks) := goodIn_app (goodIn_of _ (by decide +kernel)) ggX2_readComma_X2_skipBlanks
set_option maxRecDepth 20000 in
theorem ggX2_readComma_X2_blame : GoodIn wsX2_readComma wsX2_blame := goodIn_r _ [12, 13, 14, 15, 16, 17, 18, 19, 20, 21] (by decide +kernel) (by decide +kernel)
set_option maxRecDepth 20000 in
theorem gX2_readComma_X2_blame : GoodIn wsX2_readComma (wsV RX2 46 RX2 yX2_blame wsX2_blame) := goodIn_app (goodIn_of _ (by decide +kernel)) ggX2_readComma_X2_blame
theorem dX2_readComma_0 : decode cX2_readComma 0 = .ok (.aload_n 0, 1) := by decide +kernel
theorem dX2_readComma_1 : decode cX2_readComma 1 = .ok (.invokevirtual 54, 3) := by decide +kernel
theorem dX2_readComma_4 : decode cX2_readComma 4 = .ok (.aload_n 0, 1) := by decide +kernel
theorem dX2_readComma_5 : decode cX2_readComma 5 = .ok (.getfield 23, 3) := by decide +kernel
theorem dX2_readComma_8 : decode cX2_readComma 8 = .ok (.aload_n 0, 1) := by decide +kernel
theorem dX2_readComma_9 : decode cX2_readComma 9 = .ok (.getfield 19, 3) := by decide +kernel
theorem dX2_readComma_12 : decode cX2_readComma 12 = .ok (.if_icmp .lt 5, 3) := by decide +kernel
theorem dX2_readComma_15 : decode cX2_readComma 15 = .ok (.iconst 0, 1) := by decide +kernel
theorem dX2_readComma_16 : decode cX2_readComma 16 = .ok (.ireturn, 1) := by decide +kernel
theorem dX2_readComma_17 : decode cX2_readComma 17 = .ok (.aload_n 0, 1) := by decide +kernel
theorem dX2_readComma_18 : decode cX2_readComma 18 = .ok (.getfield 9, 3) := by decide +kernel
theorem dX2_readComma_21 : decode cX2_readComma 21 = .ok (.aload_n 0, 1) := by decide +kernel
theorem dX2_readComma_22 : decode cX2_readComma 22 = .ok (.getfield 23, 3) := by decide +kernel
theorem dX2_readComma_25 : decode cX2_readComma 25 = .ok (.baload, 1) := by decide +kernel
theorem dX2_readComma_26 : decode cX2_readComma 26 = .ok (.bipush 44, 2) := by decide +kernel
theorem dX2_readComma_28 : decode cX2_readComma 28 = .ok (.if_icmp .eq 14, 3) := by decide +kernel
theorem dX2_readComma_31 : decode cX2_readComma 31 = .ok (.aload_n 0, 1) := by decide +kernel
theorem dX2_readComma_32 : decode cX2_readComma 32 = .ok (.iconst 1, 1) := by decide +kernel
theorem dX2_readComma_33 : decode cX2_readComma 33 = .ok (.aload_n 0, 1) := by decide +kernel
theorem dX2_readComma_34 : decode cX2_readComma 34 = .ok (.getfield 23, 3) := by decide +kernel
theorem dX2_readComma_37 : decode cX2_readComma 37 = .ok (.invokevirtual 46, 3) := by decide +kernel
theorem dX2_readComma_40 : decode cX2_readComma 40 = .ok (.iconst 0, 1) := by decide +kernel
theorem dX2_readComma_41 : decode cX2_readComma 41 = .ok (.ireturn, 1) := by decide +kernel
theorem dX2_readComma_42 : decode cX2_readComma 42 = .ok (.aload_n 0, 1) := by decide +kernel
theorem dX2_readComma_43 : decode cX2_readComma 43 = .ok (.dup, 1) := by decide +kernel
theorem dX2_readComma_44 : decode cX2_readComma 44 = .ok (.getfield 23, 3) := by decide +kernel
theorem dX2_readComma_47 : decode cX2_readComma 47 = .ok (.iconst 1, 1) := by decide +kernel
theorem dX2_readComma_48 : decode cX2_readComma 48 = .ok (.iadd, 1) := by decide +kernel
theorem dX2_readComma_49 : decode cX2_readComma 49 = .ok (.putfield 23, 3) := by decide +kernel
theorem dX2_readComma_52 : decode cX2_readComma 52 = .ok (.iconst 1, 1) := by decide +kernel
theorem dX2_readComma_53 : decode cX2_readComma 53 = .ok (.ireturn, 1) := by decide +kernel
theorem dX2_skipBlanks_0 : decode cX2_skipBlanks 0 = .ok (.aload_n 0, 1) := by decide +kernel
theorem dX2_skipBlanks_1 : decode cX2_skipBlanks 1 = .ok (.getfield 23, 3) := by decide +kernel
theorem dX2_skipBlanks_4 : decode cX2_skipBlanks 4 = .ok (.aload_n 0, 1) := by decide +kernel
theorem dX2_skipBlanks_5 : decode cX2_skipBlanks 5 = .ok (.getfield 19, 3) := by decide +kernel
theorem dX2_skipBlanks_8 : decode cX2_skipBlanks 8 = .ok (.if_icmp .ge 30, 3) := by decide +kernel
theorem dX2_skipBlanks_11 : decode cX2_skipBlanks 11 = .ok (.aload_n 0, 1) := by decide +kernel
theorem dX2_skipBlanks_12 : decode cX2_skipBlanks 12 = .ok (.getfield 9, 3) := by decide +kernel
theorem dX2_skipBlanks_15 : decode cX2_skipBlanks 15 = .ok (.aload_n 0, 1) := by decide +kernel
theorem dX2_skipBlanks_16 : decode cX2_skipBlanks 16 = .ok (.getfield 23, 3) := by decide +kernel
theorem dX2_skipBlanks_19 : decode cX2_skipBlanks 19 = .ok (.baload, 1) := by decide +kernel
theorem dX2_skipBlanks_20 : decode cX2_skipBlanks 20 = .ok (.bipush 32, 2) := by decide +kernel
theorem dX2_skipBlanks_22 : decode cX2_skipBlanks 22 = .ok (.if_icmp .ne 16, 3) := by decide +kernel
theorem dX2_skipBlanks_25 : decode cX2_skipBlanks 25 = .ok (.aload_n 0, 1) := by decide +kernel
theorem dX2_skipBlanks_26 : decode cX2_skipBlanks 26 = .ok (.dup, 1) := by decide +kernel
theorem dX2_skipBlanks_27 : decode cX2_skipBlanks 27 = .ok (.getfield 23, 3) := by decide +kernel
theorem dX2_skipBlanks_30 : decode cX2_skipBlanks 30 = .ok (.iconst 1, 1) := by decide +kernel
theorem dX2_skipBlanks_31 : decode cX2_skipBlanks 31 = .ok (.iadd, 1) := by decide +kernel
theorem dX2_skipBlanks_32 : decode cX2_skipBlanks 32 = .ok (.putfield 23, 3) := by decide +kernel
theorem dX2_skipBlanks_35 : decode cX2_skipBlanks 35 = .ok (.goto (-35), 3) := by decide +kernel
theorem dX2_skipBlanks_38 : decode cX2_skipBlanks 38 = .ok (.return_, 1) := by decide +kernel
theorem dX2_skipLetters_0 : decode cX2_skipLetters 0 = .ok (.aload_n 0, 1) := by decide +kernel
theorem dX2_skipLetters_1 : decode cX2_skipLetters 1 = .ok (.getfield 23, 3) := by decide +kernel
theorem dX2_skipLetters_4 : decode cX2_skipLetters 4 = .ok (.aload_n 0, 1) := by decide +kernel
theorem dX2_skipLetters_5 : decode cX2_skipLetters 5 = .ok (.getfield 19, 3) := by decide +kernel
theorem dX2_skipLetters_8 : decode cX2_skipLetters 8 = .ok (.if_icmp .ge 44, 3) := by decide +kernel
theorem dX2_skipLetters_11 : decode cX2_skipLetters 11 = .ok (.aload_n 0, 1) := by decide +kernel
theorem dX2_skipLetters_12 : decode cX2_skipLetters 12 = .ok (.getfield 9, 3) := by decide +kernel
theorem dX2_skipLetters_15 : decode cX2_skipLetters 15 = .ok (.aload_n 0, 1) := by decide +kernel
theorem dX2_skipLetters_16 : decode cX2_skipLetters 16 = .ok (.getfield 23, 3) := by decide +kernel
theorem dX2_skipLetters_19 : decode cX2_skipLetters 19 = .ok (.baload, 1) := by decide +kernel
theorem dX2_skipLetters_20 : decode cX2_skipLetters 20 = .ok (.bipush 97, 2) := by decide +kernel
theorem dX2_skipLetters_22 : decode cX2_skipLetters 22 = .ok (.if_icmp .lt 30, 3) := by decide +kernel
theorem dX2_skipLetters_25 : decode cX2_skipLetters 25 = .ok (.aload_n 0, 1) := by decide +kernel
theorem dX2_skipLetters_26 : decode cX2_skipLetters 26 = .ok (.getfield 9, 3) := by decide +kernel
theorem dX2_skipLetters_29 : decode cX2_skipLetters 29 = .ok (.aload_n 0, 1) := by decide +kernel
theorem dX2_skipLetters_30 : decode cX2_skipLetters 30 = .ok (.getfield 23, 3) := by decide +kernel
theorem dX2_skipLetters_33 : decode cX2_skipLetters 33 = .ok (.baload, 1) := by decide +kernel
theorem dX2_skipLetters_34 : decode cX2_skipLetters 34 = .ok (.bipush 122, 2) := by decide +kernel
theorem dX2_skipLetters_36 : decode cX2_skipLetters 36 = .ok (.if_icmp .gt 16, 3) := by decide +kernel
theorem dX2_skipLetters_39 : decode cX2_skipLetters 39 = .ok (.aload_n 0, 1) := by decide +kernel
theorem dX2_skipLetters_40 : decode cX2_skipLetters 40 = .ok (.dup, 1) := by decide +kernel
theorem dX2_skipLetters_41 : decode cX2_skipLetters 41 = .ok (.getfield 23, 3) := by decide +kernel
theorem dX2_skipLetters_44 : decode cX2_skipLetters 44 = .ok (.iconst 1, 1) := by decide +kernel
theorem dX2_skipLetters_45 : decode cX2_skipLetters 45 = .ok (.iadd, 1) := by decide +kernel
theorem dX2_skipLetters_46 : decode cX2_skipLetters 46 = .ok (.putfield 23, 3) := by decide +kernel
theorem dX2_skipLetters_49 : decode cX2_skipLetters 49 = .ok (.goto (-49), 3) := by decide +kernel
theorem dX2_skipLetters_52 : decode cX2_skipLetters 52 = .ok (.return_, 1) := by decide +kernel
theorem dX2_readNumber_0 : decode cX2_readNumber 0 = .ok (.iconst 0, 1) := by decide +kernel
theorem dX2_readNumber_1 : decode cX2_readNumber 1 = .ok (.istore_n 1, 1) := by decide +kernel
theorem dX2_readNumber_2 : decode cX2_readNumber 2 = .ok (.aload_n 0, 1) := by decide +kernel
theorem dX2_readNumber_3 : decode cX2_readNumber 3 = .ok (.getfield 23, 3) := by decide +kernel
theorem dX2_readNumber_6 : decode cX2_readNumber 6 = .ok (.aload_n 0, 1) := by decide +kernel
theorem dX2_readNumber_7 : decode cX2_readNumber 7 = .ok (.getfield 19, 3) := by decide +kernel
theorem dX2_readNumber_10 : decode cX2_readNumber 10 = .ok (.if_icmp .ge 68, 3) := by decide +kernel
theorem dX2_readNumber_13 : decode cX2_readNumber 13 = .ok (.aload_n 0, 1) := by decide +kernel
theorem dX2_readNumber_14 : decode cX2_readNumber 14 = .ok (.getfield 9, 3) := by decide +kernel
theorem dX2_readNumber_17 : decode cX2_readNumber 17 = .ok (.aload_n 0, 1) := by decide +kernel
theorem dX2_readNumber_18 : decode cX2_readNumber 18 = .ok (.getfield 23, 3) := by decide +kernel
theorem dX2_readNumber_21 : decode cX2_readNumber 21 = .ok (.baload, 1) := by decide +kernel
theorem dX2_readNumber_22 : decode cX2_readNumber 22 = .ok (.bipush 48, 2) := by decide +kernel
theorem dX2_readNumber_24 : decode cX2_readNumber 24 = .ok (.if_icmp .lt 54, 3) := by decide +kernel
theorem dX2_readNumber_27 : decode cX2_readNumber 27 = .ok (.aload_n 0, 1) := by decide +kernel
theorem dX2_readNumber_28 : decode cX2_readNumber 28 = .ok (.getfield 9, 3) := by decide +kernel
theorem dX2_readNumber_31 : decode cX2_readNumber 31 = .ok (.aload_n 0, 1) := by decide +kernel
theorem dX2_readNumber_32 : decode cX2_readNumber 32 = .ok (.getfield 23, 3) := by decide +kernel
theorem dX2_readNumber_35 : decode cX2_readNumber 35 = .ok (.baload, 1) := by decide +kernel
theorem dX2_readNumber_36 : decode cX2_readNumber 36 = .ok (.bipush 57, 2) := by decide +kernel
theorem dX2_readNumber_38 : decode cX2_readNumber 38 = .ok (.if_icmp .gt 40, 3) := by decide +kernel
theorem dX2_readNumber_41 : decode cX2_readNumber 41 = .ok (.iload_n 1, 1) := by decide +kernel
theorem dX2_readNumber_42 : decode cX2_readNumber 42 = .ok (.bipush 10, 2) := by decide +kernel
theorem dX2_readNumber_44 : decode cX2_readNumber 44 = .ok (.imul, 1) := by decide +kernel
theorem dX2_readNumber_45 : decode cX2_readNumber 45 = .ok (.aload_n 0, 1) := by decide +kernel
theorem dX2_readNumber_46 : decode cX2_readNumber 46 = .ok (.getfield 9, 3) := by decide +kernel
theorem dX2_readNumber_49 : decode cX2_readNumber 49 = .ok (.aload_n 0, 1) := by decide +kernel
theorem dX2_readNumber_50 : decode cX2_readNumber 50 = .ok (.getfield 23, 3) := by decide +kernel
theorem dX2_readNumber_53 : decode cX2_readNumber 53 = .ok (.baload, 1) := by decide +kernel
theorem dX2_readNumber_54 : decode cX2_readNumber 54 = .ok (.bipush 48, 2) := by decide +kernel
theorem dX2_readNumber_56 : decode cX2_readNumber 56 = .ok (.isub, 1) := by decide +kernel
theorem dX2_readNumber_57 : decode cX2_readNumber 57 = .ok (.iadd, 1) := by decide +kernel
theorem dX2_readNumber_58 : decode cX2_readNumber 58 = .ok (.sipush 1000, 3) := by decide +kernel
theorem dX2_readNumber_61 : decode cX2_readNumber 61 = .ok (.invokestatic 73, 3) := by decide +kernel
theorem dX2_readNumber_64 : decode cX2_readNumber 64 = .ok (.istore_n 1, 1) := by decide +kernel
theorem dX2_readNumber_65 : decode cX2_readNumber 65 = .ok (.aload_n 0, 1) := by decide +kernel
theorem dX2_readNumber_66 : decode cX2_readNumber 66 = .ok (.dup, 1) := by decide +kernel
theorem dX2_readNumber_67 : decode cX2_readNumber 67 = .ok (.getfield 23, 3) := by decide +kernel
theorem dX2_readNumber_70 : decode cX2_readNumber 70 = .ok (.iconst 1, 1) := by decide +kernel
theorem dX2_readNumber_71 : decode cX2_readNumber 71 = .ok (.iadd, 1) := by decide +kernel
theorem dX2_readNumber_72 : decode cX2_readNumber 72 = .ok (.putfield 23, 3) := by decide +kernel
theorem dX2_readNumber_75 : decode cX2_readNumber 75 = .ok (.goto (-73), 3) := by decide +kernel
theorem dX2_readNumber_78 : decode cX2_readNumber 78 = .ok (.iload_n 1, 1) := by decide +kernel
theorem dX2_readNumber_79 : decode cX2_readNumber 79 = .ok (.ireturn, 1) := by decide +kernel
set_option maxRecDepth 20000 in
theorem ggX2_partNamed_X2_nameOf : GoodIn wsX2_partNamed wsX2_nameOf := goodIn_r _ [4] (by decide +kernel) (by decide +kernel)
set_option maxRecDepth 20000 in
theorem gX2_partNamed_X2_nameOf : GoodIn wsX2_partNamed (va_wsS RX2 79 yX2_nameOf wsX2_nameOf) := goodIn_app (goodIn_of _ (by decide +kernel)) ggX2_partNamed_X2_nameOf
set_option maxRecDepth 20000 in
theorem ggX2_partNamed_X2_isWord : GoodIn wsX2_partNamed wsX2_isWord := goodIn_r _ [8, 9, 10, 11, 12, 13, 14, 15, 16, 17, 18, 19, 20, 21, 22, 23, 24, 25, 26, 27, 28, 29, 30, 31, 32, 33, 34, 35, 36, 37, 38, 39, 40, 41, 42, 43, 44, 45, 46, 47, 48, 49, 50, 51, 52, 53, 54, 55, 56, 57, 58, 59, 60, 61, 62, 63, 64, 65, 66] (by decide +kernel) (by decide +kernel)
set_option maxRecDepth 20000 in
theorem gX2_partNamed_X2_isWord : GoodIn wsX2_partNamed (wsV RX2 83 RX2 yX2_isWord wsX2_isWord) := goodIn_app (goodIn_of _ (by decide +kernel)) ggX2_partNamed_X2_isWord
theorem dX2_partNamed_0 : decode cX2_partNamed 0 = .ok (.iconst 0, 1) := by decide +kernel
theorem dX2_partNamed_1 : decode cX2_partNamed 1 = .ok (.istore_n 2, 1) := by decide +kernel
theorem dX2_partNamed_2 : decode cX2_partNamed 2 = .ok (.iload_n 2, 1) := by decide +kernel
theorem dX2_partNamed_3 : decode cX2_partNamed 3 = .ok (.iconst 4, 1) := by decide +kernel
theorem dX2_partNamed_4 : decode cX2_partNamed 4 = .ok (.if_icmp .ge 23, 3) := by decide +kernel
theorem dX2_partNamed_7 : decode cX2_partNamed 7 = .ok (.aload_n 0, 1) := by decide +kernel
theorem dX2_partNamed_8 : decode cX2_partNamed 8 = .ok (.iload_n 2, 1) := by decide +kernel
theorem dX2_partNamed_9 : decode cX2_partNamed 9 = .ok (.invokestatic 79, 3) := by decide +kernel
theorem dX2_partNamed_12 : decode cX2_partNamed 12 = .ok (.iload_n 1, 1) := by decide +kernel
theorem dX2_partNamed_13 : decode cX2_partNamed 13 = .ok (.invokevirtual 83, 3) := by decide +kernel
theorem dX2_partNamed_16 : decode cX2_partNamed 16 = .ok (.ifCond .eq 5, 3) := by decide +kernel
theorem dX2_partNamed_19 : decode cX2_partNamed 19 = .ok (.iload_n 2, 1) := by decide +kernel
theorem dX2_partNamed_20 : decode cX2_partNamed 20 = .ok (.ireturn, 1) := by decide +kernel
theorem dX2_partNamed_21 : decode cX2_partNamed 21 = .ok (.iinc 2 1, 3) := by decide +kernel
theorem dX2_partNamed_24 : decode cX2_partNamed 24 = .ok (.goto (-22), 3) := by decide +kernel
theorem dX2_partNamed_27 : decode cX2_partNamed 27 = .ok (.iconst (-1), 1) := by decide +kernel
theorem dX2_partNamed_28 : decode cX2_partNamed 28 = .ok (.ireturn, 1) := by decide +kernel
set_option maxRecDepth 20000 in
theorem ggX2_isWord_J0_length_8abf5 : GoodIn wsX2_isWord wsJ0_length_8abf5 := goodIn_r _ [7, 8, 9, 10, 11, 6, 12, 13, 14] (by decide +kernel) (by decide +kernel)
set_option maxRecDepth 20000 in
theorem gX2_isWord_J0_length_8abf5 : GoodIn wsX2_isWord (wsV RX2 87 RJ0 yJ0_length_8abf5 wsJ0_length_8abf5) := goodIn_app (goodIn_of _ (by decide +kernel)) ggX2_isWord_J0_length_8abf5
set_option maxRecDepth 20000 in
theorem ggX2_isWord_J0_charAt_5068e : GoodIn wsX2_isWord wsJ0_charAt_5068e := goodIn_r _ [18, 8, 19, 20, 21, 6, 22, 13, 14, 23, 24, 25, 26, 27, 28, 29, 30, 31, 32, 33, 34, 35, 36, 37, 38, 39, 40, 41, 42, 43, 44, 45, 46, 47, 48, 49, 50, 51] (by decide +kernel) (by decide +kernel)
set_option maxRecDepth 20000 in
theorem gX2_isWord_J0_charAt_5068e : GoodIn wsX2_isWord (wsV RX2 91 RJ0 yJ0_charAt_5068e wsJ0_charAt_5068e) := goodIn_app (goodIn_of _ (by decide +kernel)) ggX2_isWord_J0_charAt_5068e
theorem dX2_isWord_0 : decode cX2_isWord 0 = .ok (.aload_n 0, 1) := by decide +kernel
theorem dX2_isWord_1 : decode cX2_isWord 1 = .ok (.getfield 23, 3) := by decide +kernel
theorem dX2_isWord_4 : decode cX2_isWord 4 = .ok (.iload_n 2, 1) := by decide +kernel
theorem dX2_isWord_5 : decode cX2_isWord 5 = .ok (.isub, 1) := by decide +kernel
theorem dX2_isWord_6 : decode cX2_isWord 6 = .ok (.aload_n 1, 1) := by decide +kernel
theorem dX2_isWord_7 : decode cX2_isWord 7 = .ok (.invokevirtual 87, 3) := by decide +kernel
theorem dX2_isWord_10 : decode cX2_isWord 10 = .ok (.if_icmp .eq 5, 3) := by decide +kernel
theorem dX2_isWord_13 : decode cX2_isWord 13 = .ok (.iconst 0, 1) := by decide +kernel
theorem dX2_isWord_14 : decode cX2_isWord 14 = .ok (.ireturn, 1) := by decide +kernel
theorem dX2_isWord_15 : decode cX2_isWord 15 = .ok (.iconst 0, 1) := by decide +kernel
theorem dX2_isWord_16 : decode cX2_isWord 16 = .ok (.istore_n 3, 1) := by decide +kernel
theorem dX2_isWord_17 : decode cX2_isWord 17 = .ok (.iload_n 3, 1) := by decide +kernel
theorem dX2_isWord_18 : decode cX2_isWord 18 = .ok (.aload_n 1, 1) := by decide +kernel
theorem dX2_isWord_19 : decode cX2_isWord 19 = .ok (.invokevirtual 87, 3) := by decide +kernel
theorem dX2_isWord_22 : decode cX2_isWord 22 = .ok (.if_icmp .ge 27, 3) := by decide +kernel
theorem dX2_isWord_25 : decode cX2_isWord 25 = .ok (.aload_n 0, 1) := by decide +kernel
theorem dX2_isWord_26 : decode cX2_isWord 26 = .ok (.getfield 9, 3) := by decide +kernel
theorem dX2_isWord_29 : decode cX2_isWord 29 = .ok (.iload_n 2, 1) := by decide +kernel
theorem dX2_isWord_30 : decode cX2_isWord 30 = .ok (.iload_n 3, 1) := by decide +kernel
theorem dX2_isWord_31 : decode cX2_isWord 31 = .ok (.iadd, 1) := by decide +kernel
theorem dX2_isWord_32 : decode cX2_isWord 32 = .ok (.baload, 1) := by decide +kernel
theorem dX2_isWord_33 : decode cX2_isWord 33 = .ok (.aload_n 1, 1) := by decide +kernel
theorem dX2_isWord_34 : decode cX2_isWord 34 = .ok (.iload_n 3, 1) := by decide +kernel
theorem dX2_isWord_35 : decode cX2_isWord 35 = .ok (.invokevirtual 91, 3) := by decide +kernel
theorem dX2_isWord_38 : decode cX2_isWord 38 = .ok (.if_icmp .eq 5, 3) := by decide +kernel
theorem dX2_isWord_41 : decode cX2_isWord 41 = .ok (.iconst 0, 1) := by decide +kernel
theorem dX2_isWord_42 : decode cX2_isWord 42 = .ok (.ireturn, 1) := by decide +kernel
theorem dX2_isWord_43 : decode cX2_isWord 43 = .ok (.iinc 3 1, 3) := by decide +kernel
theorem dX2_isWord_46 : decode cX2_isWord 46 = .ok (.goto (-29), 3) := by decide +kernel
theorem dX2_isWord_49 : decode cX2_isWord 49 = .ok (.iconst 1, 1) := by decide +kernel
theorem dX2_isWord_50 : decode cX2_isWord 50 = .ok (.ireturn, 1) := by decide +kernel
theorem dX2_nameOf_0 : decode cX2_nameOf 0 = .ok (.iload_n 0, 1) := by decide +kernel
theorem dX2_nameOf_1 : decode cX2_nameOf 1 = .ok (.tableswitch 36 0 2 #[27, 30, 33], 27) := by decide +kernel
theorem dX2_nameOf_28 : decode cX2_nameOf 28 = .ok (.ldc 95, 2) := by decide +kernel
theorem dX2_nameOf_30 : decode cX2_nameOf 30 = .ok (.areturn, 1) := by decide +kernel
theorem dX2_nameOf_31 : decode cX2_nameOf 31 = .ok (.ldc 97, 2) := by decide +kernel
theorem dX2_nameOf_33 : decode cX2_nameOf 33 = .ok (.areturn, 1) := by decide +kernel
theorem dX2_nameOf_34 : decode cX2_nameOf 34 = .ok (.ldc 99, 2) := by decide +kernel
theorem dX2_nameOf_36 : decode cX2_nameOf 36 = .ok (.areturn, 1) := by decide +kernel
theorem dX2_nameOf_37 : decode cX2_nameOf 37 = .ok (.ldc 101, 2) := by decide +kernel
theorem dX2_nameOf_39 : decode cX2_nameOf 39 = .ok (.areturn, 1) := by decide +kernel
