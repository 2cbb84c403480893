set_option maxRecDepth 20000 in
theorem ggX3_init_X2_init : GoodIn wsX3_init wsX2_init := goodIn_r _ [28, 29, 2, 3, 30, 31, 4, 32, 33, 34, 35, 36, 37, 75, 76, 77, 78, 79, 80, 81] (by decide +kernel) (by decide +kernel)
set_option maxRecDepth 20000 in
theorem gX3_init_X2_init_n15 : GoodIn wsX3_init (wsX2_init) := ggX3_init_X2_init
set_option maxRecDepth 20000 in
theorem ggX3_init_X0_init : GoodIn wsX3_init wsX0_init := goodIn_r _ [39, 40, 2, 3, 41, 4, 42, 43, 44, 45, 46, 82, 83, 84, 85, 86] (by decide +kernel) (by decide +kernel)
set_option maxRecDepth 20000 in
theorem gX3_init_X0_init_n22 : GoodIn wsX3_init (wsX0_init) := ggX3_init_X0_init
set_option maxRecDepth 20000 in
theorem ggX3_init_X1_init : GoodIn wsX3_init wsX1_init := goodIn_r _ [48, 49, 2, 3, 4, 50, 51, 52, 53, 54, 55, 56, 57, 58, 59, 60, 61, 62, 87, 88, 89, 90, 91, 92, 93, 94, 95, 96, 97, 98] (by decide +kernel) (by decide +kernel)
set_option maxRecDepth 20000 in
theorem gX3_init_X1_init_n34 : GoodIn wsX3_init (wsX1_init) := ggX3_init_X1_init
theorem dX3_init_0 : decode cX3_init 0 = .ok (.aload_n 0, 1) := by decide +kernel
theorem dX3_init_1 : decode cX3_init 1 = .ok (.invokespecial 1, 3) := by decide +kernel
theorem dX3_init_4 : decode cX3_init 4 = .ok (.aload_n 0, 1) := by decide +kernel
theorem dX3_init_5 : decode cX3_init 5 = .ok (.bipush 12, 2) := by decide +kernel
theorem dX3_init_7 : decode cX3_init 7 = .ok (.newarray .int, 2) := by decide +kernel
theorem dX3_init_9 : decode cX3_init 9 = .ok (.putfield 9, 3) := by decide +kernel
theorem dX3_init_12 : decode cX3_init 12 = .ok (.aload_n 0, 1) := by decide +kernel
theorem dX3_init_13 : decode cX3_init 13 = .ok (.new 13, 3) := by decide +kernel
theorem dX3_init_16 : decode cX3_init 16 = .ok (.dup, 1) := by decide +kernel
theorem dX3_init_17 : decode cX3_init 17 = .ok (.invokespecial 15, 3) := by decide +kernel
theorem dX3_init_20 : decode cX3_init 20 = .ok (.putfield 16, 3) := by decide +kernel
theorem dX3_init_23 : decode cX3_init 23 = .ok (.aload_n 0, 1) := by decide +kernel
theorem dX3_init_24 : decode cX3_init 24 = .ok (.new 20, 3) := by decide +kernel
theorem dX3_init_27 : decode cX3_init 27 = .ok (.dup, 1) := by decide +kernel
theorem dX3_init_28 : decode cX3_init 28 = .ok (.invokespecial 22, 3) := by decide +kernel
theorem dX3_init_31 : decode cX3_init 31 = .ok (.putfield 23, 3) := by decide +kernel
theorem dX3_init_34 : decode cX3_init 34 = .ok (.aload_n 0, 1) := by decide +kernel
theorem dX3_init_35 : decode cX3_init 35 = .ok (.bipush 60, 2) := by decide +kernel
theorem dX3_init_37 : decode cX3_init 37 = .ok (.bipush 13, 2) := by decide +kernel
theorem dX3_init_39 : decode cX3_init 39 = .ok (.multianewarray 27 2, 4) := by decide +kernel
theorem dX3_init_43 : decode cX3_init 43 = .ok (.putfield 29, 3) := by decide +kernel
theorem dX3_init_46 : decode cX3_init 46 = .ok (.aload_n 0, 1) := by decide +kernel
theorem dX3_init_47 : decode cX3_init 47 = .ok (.new 32, 3) := by decide +kernel
theorem dX3_init_50 : decode cX3_init 50 = .ok (.dup, 1) := by decide +kernel
theorem dX3_init_51 : decode cX3_init 51 = .ok (.invokespecial 34, 3) := by decide +kernel
theorem dX3_init_54 : decode cX3_init 54 = .ok (.putfield 35, 3) := by decide +kernel
theorem dX3_init_57 : decode cX3_init 57 = .ok (.aload_n 0, 1) := by decide +kernel
theorem dX3_init_58 : decode cX3_init 58 = .ok (.iconst 0, 1) := by decide +kernel
theorem dX3_init_59 : decode cX3_init 59 = .ok (.putfield 39, 3) := by decide +kernel
theorem dX3_init_62 : decode cX3_init 62 = .ok (.aload_n 0, 1) := by decide +kernel
theorem dX3_init_63 : decode cX3_init 63 = .ok (.iconst 0, 1) := by decide +kernel
theorem dX3_init_64 : decode cX3_init 64 = .ok (.putfield 43, 3) := by decide +kernel
theorem dX3_init_67 : decode cX3_init 67 = .ok (.aload_n 0, 1) := by decide +kernel
theorem dX3_init_68 : decode cX3_init 68 = .ok (.iconst 0, 1) := by decide +kernel
theorem dX3_init_69 : decode cX3_init 69 = .ok (.putfield 46, 3) := by decide +kernel
theorem dX3_init_72 : decode cX3_init 72 = .ok (.aload_n 0, 1) := by decide +kernel
theorem dX3_init_73 : decode cX3_init 73 = .ok (.iconst 0, 1) := by decide +kernel
theorem dX3_init_74 : decode cX3_init 74 = .ok (.putfield 49, 3) := by decide +kernel
theorem dX3_init_77 : decode cX3_init 77 = .ok (.aload_n 0, 1) := by decide +kernel
theorem dX3_init_78 : decode cX3_init 78 = .ok (.iconst (-1), 1) := by decide +kernel
theorem dX3_init_79 : decode cX3_init 79 = .ok (.putfield 52, 3) := by decide +kernel
theorem dX3_init_82 : decode cX3_init 82 = .ok (.aload_n 0, 1) := by decide +kernel
theorem dX3_init_83 : decode cX3_init 83 = .ok (.iconst (-1), 1) := by decide +kernel
theorem dX3_init_84 : decode cX3_init 84 = .ok (.putfield 55, 3) := by decide +kernel
theorem dX3_init_87 : decode cX3_init 87 = .ok (.aload_n 0, 1) := by decide +kernel
theorem dX3_init_88 : decode cX3_init 88 = .ok (.iconst 0, 1) := by decide +kernel
theorem dX3_init_89 : decode cX3_init 89 = .ok (.putfield 58, 3) := by decide +kernel
theorem dX3_init_92 : decode cX3_init 92 = .ok (.return_, 1) := by decide +kernel
theorem dX3_push_0 : decode cX3_push 0 = .ok (.iload_n 1, 1) := by decide +kernel
theorem dX3_push_1 : decode cX3_push 1 = .ok (.bipush 50, 2) := by decide +kernel
theorem dX3_push_3 : decode cX3_push 3 = .ok (.if_icmp .lt 10, 3) := by decide +kernel
theorem dX3_push_6 : decode cX3_push 6 = .ok (.iload_n 1, 1) := by decide +kernel
theorem dX3_push_7 : decode cX3_push 7 = .ok (.sipush 200, 3) := by decide +kernel
theorem dX3_push_10 : decode cX3_push 10 = .ok (.if_icmp .le 13, 3) := by decide +kernel
theorem dX3_push_13 : decode cX3_push 13 = .ok (.new 62, 3) := by decide +kernel
theorem dX3_push_16 : decode cX3_push 16 = .ok (.dup, 1) := by decide +kernel
theorem dX3_push_17 : decode cX3_push 17 = .ok (.ldc 64, 2) := by decide +kernel
theorem dX3_push_19 : decode cX3_push 19 = .ok (.invokespecial 66, 3) := by decide +kernel
theorem dX3_push_22 : decode cX3_push 22 = .ok (.athrow, 1) := by decide +kernel
theorem dX3_push_23 : decode cX3_push 23 = .ok (.aload_n 0, 1) := by decide +kernel
theorem dX3_push_24 : decode cX3_push 24 = .ok (.getfield 39, 3) := by decide +kernel
theorem dX3_push_27 : decode cX3_push 27 = .ok (.bipush 12, 2) := by decide +kernel
theorem dX3_push_29 : decode cX3_push 29 = .ok (.if_icmp .lt 5, 3) := by decide +kernel
theorem dX3_push_32 : decode cX3_push 32 = .ok (.iconst (-1), 1) := by decide +kernel
theorem dX3_push_33 : decode cX3_push 33 = .ok (.ireturn, 1) := by decide +kernel
theorem dX3_push_34 : decode cX3_push 34 = .ok (.aload_n 0, 1) := by decide +kernel
theorem dX3_push_35 : decode cX3_push 35 = .ok (.getfield 9, 3) := by decide +kernel
theorem dX3_push_38 : decode cX3_push 38 = .ok (.aload_n 0, 1) := by decide +kernel
theorem dX3_push_39 : decode cX3_push 39 = .ok (.getfield 39, 3) := by decide +kernel
theorem dX3_push_42 : decode cX3_push 42 = .ok (.iload_n 1, 1) := by decide +kernel
theorem dX3_push_43 : decode cX3_push 43 = .ok (.iastore, 1) := by decide +kernel
theorem dX3_push_44 : decode cX3_push 44 = .ok (.aload_n 0, 1) := by decide +kernel
theorem dX3_push_45 : decode cX3_push 45 = .ok (.dup, 1) := by decide +kernel
theorem dX3_push_46 : decode cX3_push 46 = .ok (.getfield 39, 3) := by decide +kernel
theorem dX3_push_49 : decode cX3_push 49 = .ok (.iconst 1, 1) := by decide +kernel
theorem dX3_push_50 : decode cX3_push 50 = .ok (.iadd, 1) := by decide +kernel
theorem dX3_push_51 : decode cX3_push 51 = .ok (.putfield 39, 3) := by decide +kernel
theorem dX3_push_54 : decode cX3_push 54 = .ok (.aload_n 0, 1) := by decide +kernel
theorem dX3_push_55 : decode cX3_push 55 = .ok (.getfield 39, 3) := by decide +kernel
theorem dX3_push_58 : decode cX3_push 58 = .ok (.ireturn, 1) := by decide +kernel
set_option maxRecDepth 20000 in
theorem ggX3_block_X0_add : GoodIn wsX3_block wsX0_add := goodIn_r _ [11, 12, 13, 14, 27, 28, 29, 30, 31] (by decide +kernel) (by decide +kernel)
set_option maxRecDepth 20000 in
theorem gX3_block_X0_add : GoodIn wsX3_block (wsV RX3 77 RX0 yX0_add wsX0_add) := goodIn_app (goodIn_of _ (by decide +kernel)) ggX3_block_X0_add
theorem dX3_block_0 : decode cX3_block 0 = .ok (.aload_n 0, 1) := by decide +kernel
theorem dX3_block_1 : decode cX3_block 1 = .ok (.getfield 23, 3) := by decide +kernel
theorem dX3_block_4 : decode cX3_block 4 = .ok (.getfield 69, 3) := by decide +kernel
theorem dX3_block_7 : decode cX3_block 7 = .ok (.bipush 10, 2) := by decide +kernel
theorem dX3_block_9 : decode cX3_block 9 = .ok (.if_icmp .lt 13, 3) := by decide +kernel
theorem dX3_block_12 : decode cX3_block 12 = .ok (.new 72, 3) := by decide +kernel
theorem dX3_block_15 : decode cX3_block 15 = .ok (.dup, 1) := by decide +kernel
theorem dX3_block_16 : decode cX3_block 16 = .ok (.ldc 74, 2) := by decide +kernel
theorem dX3_block_18 : decode cX3_block 18 = .ok (.invokespecial 76, 3) := by decide +kernel
theorem dX3_block_21 : decode cX3_block 21 = .ok (.athrow, 1) := by decide +kernel
theorem dX3_block_22 : decode cX3_block 22 = .ok (.aload_n 0, 1) := by decide +kernel
theorem dX3_block_23 : decode cX3_block 23 = .ok (.getfield 39, 3) := by decide +kernel
theorem dX3_block_26 : decode cX3_block 26 = .ok (.bipush 12, 2) := by decide +kernel
theorem dX3_block_28 : decode cX3_block 28 = .ok (.if_icmp .ge 5, 3) := by decide +kernel
theorem dX3_block_31 : decode cX3_block 31 = .ok (.iconst (-1), 1) := by decide +kernel
theorem dX3_block_32 : decode cX3_block 32 = .ok (.ireturn, 1) := by decide +kernel
theorem dX3_block_33 : decode cX3_block 33 = .ok (.aload_n 0, 1) := by decide +kernel
theorem dX3_block_34 : decode cX3_block 34 = .ok (.iconst 0, 1) := by decide +kernel
theorem dX3_block_35 : decode cX3_block 35 = .ok (.putfield 39, 3) := by decide +kernel
theorem dX3_block_38 : decode cX3_block 38 = .ok (.aload_n 0, 1) := by decide +kernel
theorem dX3_block_39 : decode cX3_block 39 = .ok (.getfield 23, 3) := by decide +kernel
theorem dX3_block_42 : decode cX3_block 42 = .ok (.aload_n 0, 1) := by decide +kernel
theorem dX3_block_43 : decode cX3_block 43 = .ok (.getfield 9, 3) := by decide +kernel
theorem dX3_block_46 : decode cX3_block 46 = .ok (.invokevirtual 77, 3) := by decide +kernel
theorem dX3_block_49 : decode cX3_block 49 = .ok (.ireturn, 1) := by decide +kernel
set_option maxRecDepth 20000 in
theorem ggX3_feed_X2_take : GoodIn wsX3_feed wsX2_take := goodIn_r _ [7, 8, 9, 22, 23, 24, 25, 26, 27, 28] (by decide +kernel) (by decide +kernel)
set_option maxRecDepth 20000 in
theorem gX3_feed_X2_take : GoodIn wsX3_feed (wsV RX3 82 RX2 yX2_take wsX2_take) := goodIn_app (goodIn_of _ (by decide +kernel)) ggX3_feed_X2_take
theorem dX3_feed_0 : decode cX3_feed 0 = .ok (.aload_n 0, 1) := by decide +kernel
theorem dX3_feed_1 : decode cX3_feed 1 = .ok (.getfield 16, 3) := by decide +kernel
theorem dX3_feed_4 : decode cX3_feed 4 = .ok (.getfield 81, 3) := by decide +kernel
theorem dX3_feed_7 : decode cX3_feed 7 = .ok (.bipush 80, 2) := by decide +kernel
theorem dX3_feed_9 : decode cX3_feed 9 = .ok (.if_icmp .le 5, 3) := by decide +kernel
theorem dX3_feed_12 : decode cX3_feed 12 = .ok (.iconst (-1), 1) := by decide +kernel
theorem dX3_feed_13 : decode cX3_feed 13 = .ok (.ireturn, 1) := by decide +kernel
theorem dX3_feed_14 : decode cX3_feed 14 = .ok (.aload_n 0, 1) := by decide +kernel
theorem dX3_feed_15 : decode cX3_feed 15 = .ok (.getfield 16, 3) := by decide +kernel
theorem dX3_feed_18 : decode cX3_feed 18 = .ok (.iload_n 1, 1) := by decide +kernel
theorem dX3_feed_19 : decode cX3_feed 19 = .ok (.invokevirtual 82, 3) := by decide +kernel
theorem dX3_feed_22 : decode cX3_feed 22 = .ok (.aload_n 0, 1) := by decide +kernel
theorem dX3_feed_23 : decode cX3_feed 23 = .ok (.getfield 16, 3) := by decide +kernel
theorem dX3_feed_26 : decode cX3_feed 26 = .ok (.iload_n 2, 1) := by decide +kernel
theorem dX3_feed_27 : decode cX3_feed 27 = .ok (.invokevirtual 82, 3) := by decide +kernel
theorem dX3_feed_30 : decode cX3_feed 30 = .ok (.aload_n 0, 1) := by decide +kernel
theorem dX3_feed_31 : decode cX3_feed 31 = .ok (.getfield 16, 3) := by decide +kernel
theorem dX3_feed_34 : decode cX3_feed 34 = .ok (.iload_n 3, 1) := by decide +kernel
theorem dX3_feed_35 : decode cX3_feed 35 = .ok (.invokevirtual 82, 3) := by decide +kernel
theorem dX3_feed_38 : decode cX3_feed 38 = .ok (.aload_n 0, 1) := by decide +kernel
theorem dX3_feed_39 : decode cX3_feed 39 = .ok (.getfield 16, 3) := by decide +kernel
theorem dX3_feed_42 : decode cX3_feed 42 = .ok (.iload 4, 2) := by decide +kernel
theorem dX3_feed_44 : decode cX3_feed 44 = .ok (.invokevirtual 82, 3) := by decide +kernel
theorem dX3_feed_47 : decode cX3_feed 47 = .ok (.aload_n 0, 1) := by decide +kernel
theorem dX3_feed_48 : decode cX3_feed 48 = .ok (.getfield 16, 3) := by decide +kernel
theorem dX3_feed_51 : decode cX3_feed 51 = .ok (.iload 5, 2) := by decide +kernel
theorem dX3_feed_53 : decode cX3_feed 53 = .ok (.invokevirtual 82, 3) := by decide +kernel
theorem dX3_feed_56 : decode cX3_feed 56 = .ok (.aload_n 0, 1) := by decide +kernel
theorem dX3_feed_57 : decode cX3_feed 57 = .ok (.getfield 16, 3) := by decide +kernel
theorem dX3_feed_60 : decode cX3_feed 60 = .ok (.getfield 81, 3) := by decide +kernel
theorem dX3_feed_63 : decode cX3_feed 63 = .ok (.ireturn, 1) := by decide +kernel
set_option maxRecDepth 20000 in
theorem ggX3_order_X3_checkOrderArguments : GoodIn wsX3_order wsX3_checkOrderArguments := goodIn_ca (goodIn_r _ [13, 14, 15, 5, 8, 16, 157, 158, 159, 160, 161, 162, 163, 164, 165, 166, 167, 168, 174, 175, 176, 177, 178, 179, 180] (by decide +kernel) (by decide +kernel)) (goodIn_sub (fun _ h => List.mem_cons_of_mem _ (List.mem_append_right _ h)) (by decide +kernel))
set_option maxRecDepth 20000 in
theorem gX3_order_X3_checkOrderArguments : GoodIn wsX3_order (wsV RX3 86 RX3 yX3_checkOrderArguments wsX3_checkOrderArguments) := goodIn_app (goodIn_of _ (by decide +kernel)) ggX3_order_X3_checkOrderArguments
set_option maxRecDepth 20000 in
theorem ggX3_order_X2_readHat : GoodIn wsX3_order wsX2_readHat := goodIn_r _ [21, 22, 23, 24, 25, 26, 27, 20, 28, 29, 30, 31, 32, 33, 34, 35, 36, 37, 38, 39, 40, 41, 42, 43, 44, 45, 46, 47, 48, 49, 50, 51, 52, 53, 54, 55, 56, 57, 58, 59, 60, 61, 62, 63, 64, 65, 66, 67, 68, 69, 70, 71, 72, 73, 74, 75, 76, 77, 78, 79, 80, 81, 82, 83, 84, 85, 86, 87, 88, 89, 90, 91, 92, 93, 94, 95, 96, 97, 98, 99, 100, 101, 102, 103, 104, 105, 106, 107, 108, 109, 110, 111, 112, 113, 114, 115, 116, 117, 118, 119, 120, 121, 174, 175, 176, 177, 178, 179, 180] (by decide +kernel) (by decide +kernel)
set_option maxRecDepth 20000 in
theorem gX3_order_X2_readHat : GoodIn wsX3_order (wsV RX3 90 RX2 yX2_readHat wsX2_readHat) := goodIn_app (goodIn_of _ (by decide +kernel)) ggX3_order_X2_readHat
set_option maxRecDepth 20000 in
theorem ggX3_order_X3_addOrder : GoodIn wsX3_order wsX3_addOrder := goodIn_r _ [125, 4, 126, 2, 127, 5, 128, 129, 130, 131, 132, 133, 134, 135, 136, 137, 138, 139, 140, 141, 142, 143, 20, 144, 145, 146, 147, 148, 23, 149, 150, 151, 152, 153, 154, 155, 156, 157, 158, 159, 160, 161, 162, 163, 164, 165, 166, 167, 168, 169, 170, 171, 172, 173, 174, 175, 176, 177, 178, 179, 180] (by decide +kernel) (by decide +kernel)
set_option maxRecDepth 20000 in
theorem gX3_order_X3_addOrder : GoodIn wsX3_order (wsV RX3 95 RX3 yX3_addOrder wsX3_addOrder) := goodIn_app (goodIn_of _ (by decide +kernel)) ggX3_order_X3_addOrder
theorem dX3_order_0 : decode cX3_order 0 = .ok (.aload_n 0, 1) := by decide +kernel
theorem dX3_order_1 : decode cX3_order 1 = .ok (.iload_n 1, 1) := by decide +kernel
theorem dX3_order_2 : decode cX3_order 2 = .ok (.iload_n 2, 1) := by decide +kernel
theorem dX3_order_3 : decode cX3_order 3 = .ok (.iload_n 3, 1) := by decide +kernel
theorem dX3_order_4 : decode cX3_order 4 = .ok (.invokevirtual 86, 3) := by decide +kernel
theorem dX3_order_7 : decode cX3_order 7 = .ok (.aload_n 0, 1) := by decide +kernel
theorem dX3_order_8 : decode cX3_order 8 = .ok (.getfield 39, 3) := by decide +kernel
theorem dX3_order_11 : decode cX3_order 11 = .ok (.bipush 12, 2) := by decide +kernel
theorem dX3_order_13 : decode cX3_order 13 = .ok (.if_icmp .ge 5, 3) := by decide +kernel
theorem dX3_order_16 : decode cX3_order 16 = .ok (.iconst (-1), 1) := by decide +kernel
theorem dX3_order_17 : decode cX3_order 17 = .ok (.ireturn, 1) := by decide +kernel
theorem dX3_order_18 : decode cX3_order 18 = .ok (.aload_n 0, 1) := by decide +kernel
theorem dX3_order_19 : decode cX3_order 19 = .ok (.getfield 23, 3) := by decide +kernel
theorem dX3_order_22 : decode cX3_order 22 = .ok (.getfield 69, 3) := by decide +kernel
theorem dX3_order_25 : decode cX3_order 25 = .ok (.ifCond .ne 6, 3) := by decide +kernel
theorem dX3_order_28 : decode cX3_order 28 = .ok (.bipush (-2), 2) := by decide +kernel
theorem dX3_order_30 : decode cX3_order 30 = .ok (.ireturn, 1) := by decide +kernel
theorem dX3_order_31 : decode cX3_order 31 = .ok (.aload_n 0, 1) := by decide +kernel
theorem dX3_order_32 : decode cX3_order 32 = .ok (.getfield 43, 3) := by decide +kernel
theorem dX3_order_35 : decode cX3_order 35 = .ok (.bipush 60, 2) := by decide +kernel
theorem dX3_order_37 : decode cX3_order 37 = .ok (.if_icmp .lt 6, 3) := by decide +kernel
theorem dX3_order_40 : decode cX3_order 40 = .ok (.bipush (-3), 2) := by decide +kernel
theorem dX3_order_42 : decode cX3_order 42 = .ok (.ireturn, 1) := by decide +kernel
theorem dX3_order_43 : decode cX3_order 43 = .ok (.aload_n 0, 1) := by decide +kernel
theorem dX3_order_44 : decode cX3_order 44 = .ok (.getfield 16, 3) := by decide +kernel
theorem dX3_order_47 : decode cX3_order 47 = .ok (.iload_n 1, 1) := by decide +kernel
theorem dX3_order_48 : decode cX3_order 48 = .ok (.invokevirtual 90, 3) := by decide +kernel
theorem dX3_order_51 : decode cX3_order 51 = .ok (.istore 4, 2) := by decide +kernel
theorem dX3_order_53 : decode cX3_order 53 = .ok (.aload_n 0, 1) := by decide +kernel
theorem dX3_order_54 : decode cX3_order 54 = .ok (.aload_n 0, 1) := by decide +kernel
theorem dX3_order_55 : decode cX3_order 55 = .ok (.getfield 16, 3) := by decide +kernel
theorem dX3_order_58 : decode cX3_order 58 = .ok (.getfield 94, 3) := by decide +kernel
theorem dX3_order_61 : decode cX3_order 61 = .ok (.putfield 55, 3) := by decide +kernel
theorem dX3_order_64 : decode cX3_order 64 = .ok (.aload_n 0, 1) := by decide +kernel
theorem dX3_order_65 : decode cX3_order 65 = .ok (.getfield 16, 3) := by decide +kernel
theorem dX3_order_68 : decode cX3_order 68 = .ok (.iconst 0, 1) := by decide +kernel
theorem dX3_order_69 : decode cX3_order 69 = .ok (.putfield 81, 3) := by decide +kernel
theorem dX3_order_72 : decode cX3_order 72 = .ok (.aload_n 0, 1) := by decide +kernel
theorem dX3_order_73 : decode cX3_order 73 = .ok (.iconst 0, 1) := by decide +kernel
theorem dX3_order_74 : decode cX3_order 74 = .ok (.putfield 39, 3) := by decide +kernel
theorem dX3_order_77 : decode cX3_order 77 = .ok (.iload 4, 2) := by decide +kernel
theorem dX3_order_79 : decode cX3_order 79 = .ok (.ifCond .eq 9, 3) := by decide +kernel
theorem dX3_order_82 : decode cX3_order 82 = .ok (.iload 4, 2) := by decide +kernel
theorem dX3_order_84 : decode cX3_order 84 = .ok (.bipush 10, 2) := by decide +kernel
theorem dX3_order_86 : decode cX3_order 86 = .ok (.isub, 1) := by decide +kernel
theorem dX3_order_87 : decode cX3_order 87 = .ok (.ireturn, 1) := by decide +kernel
theorem dX3_order_88 : decode cX3_order 88 = .ok (.aload_n 0, 1) := by decide +kernel
theorem dX3_order_89 : decode cX3_order 89 = .ok (.iload_n 2, 1) := by decide +kernel
theorem dX3_order_90 : decode cX3_order 90 = .ok (.iload_n 3, 1) := by decide +kernel
theorem dX3_order_91 : decode cX3_order 91 = .ok (.invokevirtual 95, 3) := by decide +kernel
theorem dX3_order_94 : decode cX3_order 94 = .ok (.ireturn, 1) := by decide +kernel
theorem dX3_fault_0 : decode cX3_fault 0 = .ok (.aload_n 0, 1) := by decide +kernel
theorem dX3_fault_1 : decode cX3_fault 1 = .ok (.getfield 55, 3) := by decide +kernel
theorem dX3_fault_4 : decode cX3_fault 4 = .ok (.ireturn, 1) := by decide +kernel
set_option maxRecDepth 20000 in
theorem ggX3_misfit_X3_checkBlock : GoodIn wsX3_misfit wsX3_checkBlock := goodIn_ca (goodIn_r _ [10, 11, 12, 4, 13, 20, 21, 22, 23, 24, 25, 26, 27, 28, 29, 30, 31, 32, 33, 34, 35, 36] (by decide +kernel) (by decide +kernel)) (goodIn_sub (fun _ h => List.mem_cons_of_mem _ (List.mem_append_right _ h)) (by decide +kernel))
set_option maxRecDepth 20000 in
theorem gX3_misfit_X3_checkBlock : GoodIn wsX3_misfit (wsV RX3 99 RX3 yX3_checkBlock wsX3_checkBlock) := goodIn_app (goodIn_of _ (by decide +kernel)) ggX3_misfit_X3_checkBlock
set_option maxRecDepth 20000 in
theorem ggX3_misfit_X0_misfitOf : GoodIn wsX3_misfit wsX0_misfitOf := goodIn_r _ [18, 19, 32, 33, 34, 35, 36] (by decide +kernel) (by decide +kernel)
set_option maxRecDepth 20000 in
theorem gX3_misfit_X0_misfitOf : GoodIn wsX3_misfit (wsV RX3 104 RX0 yX0_misfitOf wsX0_misfitOf) := goodIn_app (goodIn_of _ (by decide +kernel)) ggX3_misfit_X0_misfitOf
theorem dX3_misfit_0 : decode cX3_misfit 0 = .ok (.aload_n 0, 1) := by decide +kernel
theorem dX3_misfit_1 : decode cX3_misfit 1 = .ok (.iload_n 1, 1) := by decide +kernel
theorem dX3_misfit_2 : decode cX3_misfit 2 = .ok (.invokevirtual 99, 3) := by decide +kernel
theorem dX3_misfit_5 : decode cX3_misfit 5 = .ok (.iload_n 2, 1) := by decide +kernel
theorem dX3_misfit_6 : decode cX3_misfit 6 = .ok (.ifCond .lt 9, 3) := by decide +kernel
theorem dX3_misfit_9 : decode cX3_misfit 9 = .ok (.iload_n 2, 1) := by decide +kernel
theorem dX3_misfit_10 : decode cX3_misfit 10 = .ok (.bipush 12, 2) := by decide +kernel
theorem dX3_misfit_12 : decode cX3_misfit 12 = .ok (.if_icmp .lt 13, 3) := by decide +kernel
theorem dX3_misfit_15 : decode cX3_misfit 15 = .ok (.new 62, 3) := by decide +kernel
theorem dX3_misfit_18 : decode cX3_misfit 18 = .ok (.dup, 1) := by decide +kernel
theorem dX3_misfit_19 : decode cX3_misfit 19 = .ok (.ldc 102, 2) := by decide +kernel
theorem dX3_misfit_21 : decode cX3_misfit 21 = .ok (.invokespecial 66, 3) := by decide +kernel
theorem dX3_misfit_24 : decode cX3_misfit 24 = .ok (.athrow, 1) := by decide +kernel
theorem dX3_misfit_25 : decode cX3_misfit 25 = .ok (.aload_n 0, 1) := by decide +kernel
theorem dX3_misfit_26 : decode cX3_misfit 26 = .ok (.getfield 39, 3) := by decide +kernel
theorem dX3_misfit_29 : decode cX3_misfit 29 = .ok (.bipush 12, 2) := by decide +kernel
theorem dX3_misfit_31 : decode cX3_misfit 31 = .ok (.if_icmp .ge 5, 3) := by decide +kernel
theorem dX3_misfit_34 : decode cX3_misfit 34 = .ok (.iconst (-1), 1) := by decide +kernel
theorem dX3_misfit_35 : decode cX3_misfit 35 = .ok (.ireturn, 1) := by decide +kernel
theorem dX3_misfit_36 : decode cX3_misfit 36 = .ok (.aload_n 0, 1) := by decide +kernel
theorem dX3_misfit_37 : decode cX3_misfit 37 = .ok (.getfield 23, 3) := by decide +kernel
theorem dX3_misfit_40 : decode cX3_misfit 40 = .ok (.aload_n 0, 1) := by decide +kernel
theorem dX3_misfit_41 : decode cX3_misfit 41 = .ok (.getfield 9, 3) := by decide +kernel
theorem dX3_misfit_44 : decode cX3_misfit 44 = .ok (.iload_n 1, 1) := by decide +kernel
theorem dX3_misfit_45 : decode cX3_misfit 45 = .ok (.iload_n 2, 1) := by decide +kernel
theorem dX3_misfit_46 : decode cX3_misfit 46 = .ok (.invokevirtual 104, 3) := by decide +kernel
theorem dX3_misfit_49 : decode cX3_misfit 49 = .ok (.ireturn, 1) := by decide +kernel
set_option maxRecDepth 20000 in
theorem ggX3_told_X3_checkOrder : GoodIn wsX3_told wsX3_checkOrder := goodIn_ca (goodIn_r _ [8, 9, 10, 11, 25, 26, 27, 28, 29, 30, 31, 32, 33, 34, 35, 36] (by decide +kernel) (by decide +kernel)) (goodIn_sub (fun _ h => List.mem_cons_of_mem _ (List.mem_append_right _ h)) (by decide +kernel))
set_option maxRecDepth 20000 in
theorem gX3_told_X3_checkOrder : GoodIn wsX3_told (wsV RX3 108 RX3 yX3_checkOrder wsX3_checkOrder) := goodIn_app (goodIn_of _ (by decide +kernel)) ggX3_told_X3_checkOrder
set_option maxRecDepth 20000 in
theorem ggX3_told_X3_stateOf : GoodIn wsX3_told wsX3_stateOf := goodIn_r _ [15, 16, 17, 18, 7, 19, 3, 20, 21, 22, 23, 24, 25, 26, 27, 28, 29, 30, 31, 32, 33, 34, 35, 36] (by decide +kernel) (by decide +kernel)
set_option maxRecDepth 20000 in
theorem gX3_told_X3_stateOf : GoodIn wsX3_told (wsV RX3 113 RX3 yX3_stateOf wsX3_stateOf) := goodIn_app (goodIn_of _ (by decide +kernel)) ggX3_told_X3_stateOf
theorem dX3_told_0 : decode cX3_told 0 = .ok (.aload_n 0, 1) := by decide +kernel
theorem dX3_told_1 : decode cX3_told 1 = .ok (.iload_n 1, 1) := by decide +kernel
theorem dX3_told_2 : decode cX3_told 2 = .ok (.invokevirtual 108, 3) := by decide +kernel
theorem dX3_told_5 : decode cX3_told 5 = .ok (.iload_n 2, 1) := by decide +kernel
theorem dX3_told_6 : decode cX3_told 6 = .ok (.ifCond .lt 9, 3) := by decide +kernel
theorem dX3_told_9 : decode cX3_told 9 = .ok (.iload_n 2, 1) := by decide +kernel
theorem dX3_told_10 : decode cX3_told 10 = .ok (.bipush 11, 2) := by decide +kernel
theorem dX3_told_12 : decode cX3_told 12 = .ok (.if_icmp .le 13, 3) := by decide +kernel
theorem dX3_told_15 : decode cX3_told 15 = .ok (.new 62, 3) := by decide +kernel
theorem dX3_told_18 : decode cX3_told 18 = .ok (.dup, 1) := by decide +kernel
theorem dX3_told_19 : decode cX3_told 19 = .ok (.ldc 111, 2) := by decide +kernel
theorem dX3_told_21 : decode cX3_told 21 = .ok (.invokespecial 66, 3) := by decide +kernel
theorem dX3_told_24 : decode cX3_told 24 = .ok (.athrow, 1) := by decide +kernel
theorem dX3_told_25 : decode cX3_told 25 = .ok (.iload_n 2, 1) := by decide +kernel
theorem dX3_told_26 : decode cX3_told 26 = .ok (.bipush 8, 2) := by decide +kernel
theorem dX3_told_28 : decode cX3_told 28 = .ok (.if_icmp .ne 11, 3) := by decide +kernel
theorem dX3_told_31 : decode cX3_told 31 = .ok (.aload_n 0, 1) := by decide +kernel
theorem dX3_told_32 : decode cX3_told 32 = .ok (.iload_n 1, 1) := by decide +kernel
theorem dX3_told_33 : decode cX3_told 33 = .ok (.invokevirtual 113, 3) := by decide +kernel
theorem dX3_told_36 : decode cX3_told 36 = .ok (.goto 11, 3) := by decide +kernel
theorem dX3_told_39 : decode cX3_told 39 = .ok (.aload_n 0, 1) := by decide +kernel
theorem dX3_told_40 : decode cX3_told 40 = .ok (.getfield 29, 3) := by decide +kernel
theorem dX3_told_43 : decode cX3_told 43 = .ok (.iload_n 1, 1) := by decide +kernel
theorem dX3_told_44 : decode cX3_told 44 = .ok (.aaload, 1) := by decide +kernel
theorem dX3_told_45 : decode cX3_told 45 = .ok (.iload_n 2, 1) := by decide +kernel
theorem dX3_told_46 : decode cX3_told 46 = .ok (.iaload, 1) := by decide +kernel
theorem dX3_told_47 : decode cX3_told 47 = .ok (.ireturn, 1) := by decide +kernel
set_option maxRecDepth 20000 in
theorem ggX3_go_X3_checkOrder : GoodIn wsX3_go wsX3_checkOrder := goodIn_ca (goodIn_r _ [5, 6, 7, 8, 37, 38, 39, 40, 41, 42, 43, 44, 45, 46, 47, 48] (by decide +kernel) (by decide +kernel)) (goodIn_sub (fun _ h => List.mem_cons_of_mem _ (List.mem_append_right _ h)) (by decide +kernel))
set_option maxRecDepth 20000 in
theorem gX3_go_X3_checkOrder : GoodIn wsX3_go (wsV RX3 108 RX3 yX3_checkOrder wsX3_checkOrder) := goodIn_app (goodIn_of _ (by decide +kernel)) ggX3_go_X3_checkOrder
set_option maxRecDepth 20000 in
theorem ggX3_go_X3_isWaiting : GoodIn wsX3_go wsX3_isWaiting := goodIn_r _ [12, 13, 37, 38, 39, 40, 41, 42, 43, 44, 45, 46, 47, 48] (by decide +kernel) (by decide +kernel)
set_option maxRecDepth 20000 in
theorem gX3_go_X3_isWaiting : GoodIn wsX3_go (wsV RX3 116 RX3 yX3_isWaiting wsX3_isWaiting) := goodIn_app (goodIn_of _ (by decide +kernel)) ggX3_go_X3_isWaiting
set_option maxRecDepth 20000 in
theorem ggX3_go_X3_send : GoodIn wsX3_go wsX3_send := goodIn_r _ [17, 13, 18, 19, 20, 21, 22, 23, 24, 25, 26, 27, 4, 28, 29, 30, 31, 32, 33, 34, 35, 36, 37, 38, 39, 40, 41, 42, 43, 44, 45, 46, 47, 48, 49, 50, 51, 52, 53] (by decide +kernel) (by decide +kernel)
set_option maxRecDepth 20000 in
theorem gX3_go_X3_send : GoodIn wsX3_go (wsV RX3 120 RX3 yX3_send wsX3_send) := goodIn_app (goodIn_of _ (by decide +kernel)) ggX3_go_X3_send
theorem dX3_go_0 : decode cX3_go 0 = .ok (.aload_n 0, 1) := by decide +kernel
theorem dX3_go_1 : decode cX3_go 1 = .ok (.iload_n 1, 1) := by decide +kernel
theorem dX3_go_2 : decode cX3_go 2 = .ok (.invokevirtual 108, 3) := by decide +kernel
theorem dX3_go_5 : decode cX3_go 5 = .ok (.aload_n 0, 1) := by decide +kernel
theorem dX3_go_6 : decode cX3_go 6 = .ok (.iload_n 1, 1) := by decide +kernel
theorem dX3_go_7 : decode cX3_go 7 = .ok (.invokevirtual 116, 3) := by decide +kernel
theorem dX3_go_10 : decode cX3_go 10 = .ok (.ifCond .ne 5, 3) := by decide +kernel
theorem dX3_go_13 : decode cX3_go 13 = .ok (.iconst (-1), 1) := by decide +kernel
theorem dX3_go_14 : decode cX3_go 14 = .ok (.ireturn, 1) := by decide +kernel
theorem dX3_go_15 : decode cX3_go 15 = .ok (.aload_n 0, 1) := by decide +kernel
theorem dX3_go_16 : decode cX3_go 16 = .ok (.iload_n 1, 1) := by decide +kernel
theorem dX3_go_17 : decode cX3_go 17 = .ok (.invokevirtual 120, 3) := by decide +kernel
theorem dX3_go_20 : decode cX3_go 20 = .ok (.ireturn, 1) := by decide +kernel
theorem dX3_wait_0 : decode cX3_wait 0 = .ok (.iload_n 1, 1) := by decide +kernel
theorem dX3_wait_1 : decode cX3_wait 1 = .ok (.ifCond .lt 10, 3) := by decide +kernel
theorem dX3_wait_4 : decode cX3_wait 4 = .ok (.iload_n 1, 1) := by decide +kernel
theorem dX3_wait_5 : decode cX3_wait 5 = .ok (.sipush 10000, 3) := by decide +kernel
theorem dX3_wait_8 : decode cX3_wait 8 = .ok (.if_icmp .le 13, 3) := by decide +kernel
theorem dX3_wait_11 : decode cX3_wait 11 = .ok (.new 62, 3) := by decide +kernel
theorem dX3_wait_14 : decode cX3_wait 14 = .ok (.dup, 1) := by decide +kernel
theorem dX3_wait_15 : decode cX3_wait 15 = .ok (.ldc 123, 2) := by decide +kernel
theorem dX3_wait_17 : decode cX3_wait 17 = .ok (.invokespecial 66, 3) := by decide +kernel
theorem dX3_wait_20 : decode cX3_wait 20 = .ok (.athrow, 1) := by decide +kernel
theorem dX3_wait_21 : decode cX3_wait 21 = .ok (.aload_n 0, 1) := by decide +kernel
theorem dX3_wait_22 : decode cX3_wait 22 = .ok (.getfield 46, 3) := by decide +kernel
theorem dX3_wait_25 : decode cX3_wait 25 = .ok (.iload_n 1, 1) := by decide +kernel
theorem dX3_wait_26 : decode cX3_wait 26 = .ok (.iadd, 1) := by decide +kernel
theorem dX3_wait_27 : decode cX3_wait 27 = .ok (.ldc 125, 2) := by decide +kernel
theorem dX3_wait_29 : decode cX3_wait 29 = .ok (.if_icmp .le 13, 3) := by decide +kernel
theorem dX3_wait_32 : decode cX3_wait 32 = .ok (.new 62, 3) := by decide +kernel
theorem dX3_wait_35 : decode cX3_wait 35 = .ok (.dup, 1) := by decide +kernel
theorem dX3_wait_36 : decode cX3_wait 36 = .ok (.ldc 126, 2) := by decide +kernel
theorem dX3_wait_38 : decode cX3_wait 38 = .ok (.invokespecial 66, 3) := by decide +kernel
theorem dX3_wait_41 : decode cX3_wait 41 = .ok (.athrow, 1) := by decide +kernel
theorem dX3_wait_42 : decode cX3_wait 42 = .ok (.aload_n 0, 1) := by decide +kernel
theorem dX3_wait_43 : decode cX3_wait 43 = .ok (.dup, 1) := by decide +kernel
theorem dX3_wait_44 : decode cX3_wait 44 = .ok (.getfield 46, 3) := by decide +kernel
theorem dX3_wait_47 : decode cX3_wait 47 = .ok (.iload_n 1, 1) := by decide +kernel
theorem dX3_wait_48 : decode cX3_wait 48 = .ok (.iadd, 1) := by decide +kernel
theorem dX3_wait_49 : decode cX3_wait 49 = .ok (.putfield 46, 3) := by decide +kernel
theorem dX3_wait_52 : decode cX3_wait 52 = .ok (.aload_n 0, 1) := by decide +kernel
theorem dX3_wait_53 : decode cX3_wait 53 = .ok (.iconst 0, 1) := by decide +kernel
theorem dX3_wait_54 : decode cX3_wait 54 = .ok (.putfield 58, 3) := by decide +kernel
theorem dX3_wait_57 : decode cX3_wait 57 = .ok (.aload_n 0, 1) := by decide +kernel
theorem dX3_wait_58 : decode cX3_wait 58 = .ok (.getfield 46, 3) := by decide +kernel
theorem dX3_wait_61 : decode cX3_wait 61 = .ok (.ireturn, 1) := by decide +kernel
set_option maxRecDepth 20000 in
theorem ggX3_plan_X3_findBest : GoodIn wsX3_plan wsX3_findBest := goodIn_r _ [6, 7, 1, 8, 9, 10, 11, 12, 13, 14, 15, 16, 17, 18, 19, 20, 21, 22, 23, 24, 25, 5, 26, 27, 28, 29, 30, 31, 32, 33, 34, 35, 36, 37, 38, 39, 40, 41, 42, 43, 44, 45, 46, 47, 48, 49, 50, 51, 52, 53, 54, 55, 56, 57, 58, 59, 60, 61, 62, 67, 68, 69, 70, 71, 72, 73, 74, 75, 76, 77, 78, 79, 80, 81, 82, 83, 84, 85, 86, 87, 88, 89, 90, 91, 92, 93, 94, 95] (by decide +kernel) (by decide +kernel)
set_option maxRecDepth 20000 in
theorem gX3_plan_X3_findBest : GoodIn wsX3_plan (wsV RX3 128 RX3 yX3_findBest wsX3_findBest) := goodIn_app (goodIn_of _ (by decide +kernel)) ggX3_plan_X3_findBest
set_option maxRecDepth 20000 in
theorem ggX3_plan_X1_bestCost : GoodIn wsX3_plan wsX1_bestCost := goodIn_r _ [66, 21, 42, 84, 85, 86, 87, 88, 89, 90, 91, 92, 93, 94, 95] (by decide +kernel) (by decide +kernel)
set_option maxRecDepth 20000 in
theorem gX3_plan_X1_bestCost : GoodIn wsX3_plan (wsV RX3 131 RX1 yX1_bestCost wsX1_bestCost) := goodIn_app (goodIn_of _ (by decide +kernel)) ggX3_plan_X1_bestCost
theorem dX3_plan_0 : decode cX3_plan 0 = .ok (.aload_n 0, 1) := by decide +kernel
theorem dX3_plan_1 : decode cX3_plan 1 = .ok (.invokevirtual 128, 3) := by decide +kernel
theorem dX3_plan_4 : decode cX3_plan 4 = .ok (.aload_n 0, 1) := by decide +kernel
theorem dX3_plan_5 : decode cX3_plan 5 = .ok (.getfield 35, 3) := by decide +kernel
theorem dX3_plan_8 : decode cX3_plan 8 = .ok (.invokevirtual 131, 3) := by decide +kernel
theorem dX3_plan_11 : decode cX3_plan 11 = .ok (.lreturn, 1) := by decide +kernel
set_option maxRecDepth 20000 in
theorem ggX3_planned_X3_findBest : GoodIn wsX3_planned wsX3_findBest := goodIn_r _ [6, 7, 1, 8, 9, 10, 11, 12, 13, 14, 15, 16, 17, 18, 19, 20, 21, 22, 23, 24, 25, 5, 26, 27, 28, 29, 30, 31, 32, 33, 34, 35, 36, 37, 38, 39, 40, 41, 42, 43, 44, 45, 46, 47, 48, 49, 50, 51, 52, 53, 54, 55, 56, 57, 58, 59, 60, 61, 62, 67, 68, 69, 70, 71, 72, 73, 74, 75, 76, 77, 78, 79, 80, 81, 82, 83, 84, 85, 86, 87, 88, 89, 90, 91, 92, 93, 94, 95] (by decide +kernel) (by decide +kernel)
set_option maxRecDepth 20000 in
theorem gX3_planned_X3_findBest : GoodIn wsX3_planned (wsV RX3 128 RX3 yX3_findBest wsX3_findBest) := goodIn_app (goodIn_of _ (by decide +kernel)) ggX3_planned_X3_findBest
set_option maxRecDepth 20000 in
theorem ggX3_planned_X1_bestAt : GoodIn wsX3_planned wsX1_bestAt := goodIn_r _ [66, 21, 31, 51, 84, 85, 86, 87, 88, 89, 90, 91, 92, 93, 94, 95] (by decide +kernel) (by decide +kernel)
set_option maxRecDepth 20000 in
theorem gX3_planned_X1_bestAt : GoodIn wsX3_planned (wsV RX3 135 RX1 yX1_bestAt wsX1_bestAt) := goodIn_app (goodIn_of _ (by decide +kernel)) ggX3_planned_X1_bestAt
theorem dX3_planned_0 : decode cX3_planned 0 = .ok (.aload_n 0, 1) := by decide +kernel
theorem dX3_planned_1 : decode cX3_planned 1 = .ok (.invokevirtual 128, 3) := by decide +kernel
theorem dX3_planned_4 : decode cX3_planned 4 = .ok (.aload_n 0, 1) := by decide +kernel
theorem dX3_planned_5 : decode cX3_planned 5 = .ok (.getfield 35, 3) := by decide +kernel
theorem dX3_planned_8 : decode cX3_planned 8 = .ok (.iload_n 1, 1) := by decide +kernel
theorem dX3_planned_9 : decode cX3_planned 9 = .ok (.invokevirtual 135, 3) := by decide +kernel
theorem dX3_planned_12 : decode cX3_planned 12 = .ok (.ireturn, 1) := by decide +kernel
set_option maxRecDepth 20000 in
theorem ggX3_run_X3_findBest : GoodIn wsX3_run wsX3_findBest := goodIn_r _ [7, 8, 1, 9, 10, 11, 12, 2, 13, 14, 15, 16, 17, 18, 19, 20, 21, 22, 23, 24, 25, 6, 26, 27, 28, 29, 30, 31, 32, 33, 34, 35, 36, 37, 38, 39, 40, 41, 42, 43, 44, 45, 46, 47, 48, 49, 50, 51, 52, 53, 54, 55, 56, 57, 58, 59, 60, 61, 62, 79, 80, 81, 82, 83, 84, 85, 86, 87, 88, 89, 90, 103, 104, 105, 106, 107, 91, 92, 93, 94, 95, 96, 97, 98, 99, 100, 101, 102] (by decide +kernel) (by decide +kernel)
set_option maxRecDepth 20000 in
theorem gX3_run_X3_findBest : GoodIn wsX3_run (wsV RX3 128 RX3 yX3_findBest wsX3_findBest) := goodIn_app (goodIn_of _ (by decide +kernel)) ggX3_run_X3_findBest
set_option maxRecDepth 20000 in
theorem ggX3_run_X1_bestAt : GoodIn wsX3_run wsX1_bestAt := goodIn_r _ [66, 21, 31, 51, 91, 92, 93, 94, 95, 96, 97, 98, 99, 100, 101, 102] (by decide +kernel) (by decide +kernel)
set_option maxRecDepth 20000 in
theorem gX3_run_X1_bestAt : GoodIn wsX3_run (wsV RX3 135 RX1 yX1_bestAt wsX1_bestAt) := goodIn_app (goodIn_of _ (by decide +kernel)) ggX3_run_X1_bestAt
set_option maxRecDepth 20000 in
theorem ggX3_run_X3_send : GoodIn wsX3_run wsX3_send := goodIn_r _ [70, 13, 9, 14, 10, 11, 71, 72, 73, 8, 74, 57, 6, 58, 59, 60, 61, 62, 75, 76, 77, 78, 79, 80, 81, 82, 83, 84, 85, 86, 87, 88, 89, 90, 103, 104, 105, 106, 107] (by decide +kernel) (by decide +kernel)
set_option maxRecDepth 20000 in
theorem gX3_run_X3_send : GoodIn wsX3_run (wsV RX3 120 RX3 yX3_send wsX3_send) := goodIn_app (goodIn_of _ (by decide +kernel)) ggX3_run_X3_send
theorem dX3_run_0 : decode cX3_run 0 = .ok (.aload_n 0, 1) := by decide +kernel
theorem dX3_run_1 : decode cX3_run 1 = .ok (.invokevirtual 128, 3) := by decide +kernel
theorem dX3_run_4 : decode cX3_run 4 = .ok (.aload_n 0, 1) := by decide +kernel
theorem dX3_run_5 : decode cX3_run 5 = .ok (.getfield 35, 3) := by decide +kernel
theorem dX3_run_8 : decode cX3_run 8 = .ok (.getfield 138, 3) := by decide +kernel
theorem dX3_run_11 : decode cX3_run 11 = .ok (.istore_n 1, 1) := by decide +kernel
theorem dX3_run_12 : decode cX3_run 12 = .ok (.iconst 0, 1) := by decide +kernel
theorem dX3_run_13 : decode cX3_run 13 = .ok (.istore_n 2, 1) := by decide +kernel
theorem dX3_run_14 : decode cX3_run 14 = .ok (.iload_n 2, 1) := by decide +kernel
theorem dX3_run_15 : decode cX3_run 15 = .ok (.iload_n 1, 1) := by decide +kernel
theorem dX3_run_16 : decode cX3_run 16 = .ok (.if_icmp .ge 22, 3) := by decide +kernel
theorem dX3_run_19 : decode cX3_run 19 = .ok (.aload_n 0, 1) := by decide +kernel
theorem dX3_run_20 : decode cX3_run 20 = .ok (.aload_n 0, 1) := by decide +kernel
theorem dX3_run_21 : decode cX3_run 21 = .ok (.getfield 35, 3) := by decide +kernel
theorem dX3_run_24 : decode cX3_run 24 = .ok (.iload_n 2, 1) := by decide +kernel
theorem dX3_run_25 : decode cX3_run 25 = .ok (.invokevirtual 135, 3) := by decide +kernel
theorem dX3_run_28 : decode cX3_run 28 = .ok (.invokevirtual 120, 3) := by decide +kernel
theorem dX3_run_31 : decode cX3_run 31 = .ok (.pop, 1) := by decide +kernel
theorem dX3_run_32 : decode cX3_run 32 = .ok (.iinc 2 1, 3) := by decide +kernel
theorem dX3_run_35 : decode cX3_run 35 = .ok (.goto (-21), 3) := by decide +kernel
theorem dX3_run_38 : decode cX3_run 38 = .ok (.iload_n 1, 1) := by decide +kernel
theorem dX3_run_39 : decode cX3_run 39 = .ok (.ireturn, 1) := by decide +kernel
set_option maxRecDepth 20000 in
theorem ggX3_late_X3_isLate : GoodIn wsX3_late wsX3_isLate := goodIn_r _ [6, 7, 8, 9, 10, 11, 5, 12, 13, 14, 15, 16, 17, 18, 19, 20, 21, 22, 23, 24] (by decide +kernel) (by decide +kernel)
set_option maxRecDepth 20000 in
theorem gX3_late_X3_isLate : GoodIn wsX3_late (wsV RX3 139 RX3 yX3_isLate wsX3_isLate) := goodIn_app (goodIn_of _ (by decide +kernel)) ggX3_late_X3_isLate
theorem dX3_late_0 : decode cX3_late 0 = .ok (.iconst 0, 1) := by decide +kernel
theorem dX3_late_1 : decode cX3_late 1 = .ok (.istore_n 2, 1) := by decide +kernel
theorem dX3_late_2 : decode cX3_late 2 = .ok (.iconst 0, 1) := by decide +kernel
theorem dX3_late_3 : decode cX3_late 3 = .ok (.istore_n 3, 1) := by decide +kernel
theorem dX3_late_4 : decode cX3_late 4 = .ok (.iload_n 3, 1) := by decide +kernel
theorem dX3_late_5 : decode cX3_late 5 = .ok (.aload_n 0, 1) := by decide +kernel
theorem dX3_late_6 : decode cX3_late 6 = .ok (.getfield 43, 3) := by decide +kernel
theorem dX3_late_9 : decode cX3_late 9 = .ok (.if_icmp .ge 27, 3) := by decide +kernel
theorem dX3_late_12 : decode cX3_late 12 = .ok (.aload_n 0, 1) := by decide +kernel
theorem dX3_late_13 : decode cX3_late 13 = .ok (.iload_n 3, 1) := by decide +kernel
theorem dX3_late_14 : decode cX3_late 14 = .ok (.invokevirtual 139, 3) := by decide +kernel
theorem dX3_late_17 : decode cX3_late 17 = .ok (.ifCond .eq 13, 3) := by decide +kernel
theorem dX3_late_20 : decode cX3_late 20 = .ok (.iload_n 2, 1) := by decide +kernel
theorem dX3_late_21 : decode cX3_late 21 = .ok (.iload_n 1, 1) := by decide +kernel
theorem dX3_late_22 : decode cX3_late 22 = .ok (.if_icmp .ne 5, 3) := by decide +kernel
theorem dX3_late_25 : decode cX3_late 25 = .ok (.iload_n 3, 1) := by decide +kernel
theorem dX3_late_26 : decode cX3_late 26 = .ok (.ireturn, 1) := by decide +kernel
theorem dX3_late_27 : decode cX3_late 27 = .ok (.iinc 2 1, 3) := by decide +kernel
theorem dX3_late_30 : decode cX3_late 30 = .ok (.iinc 3 1, 3) := by decide +kernel
theorem dX3_late_33 : decode cX3_late 33 = .ok (.goto (-29), 3) := by decide +kernel
theorem dX3_late_36 : decode cX3_late 36 = .ok (.iconst (-1), 1) := by decide +kernel
theorem dX3_late_37 : decode cX3_late 37 = .ok (.ireturn, 1) := by decide +kernel
set_option maxRecDepth 20000 in
theorem ggX3_fit_X3_checkOrder : GoodIn wsX3_fit wsX3_checkOrder := goodIn_ca (goodIn_r _ [10, 11, 12, 13, 23, 24, 25, 26, 27, 28, 29, 30, 31, 32, 33, 34] (by decide +kernel) (by decide +kernel)) (goodIn_sub (fun _ h => List.mem_cons_of_mem _ (List.mem_append_right _ h)) (by decide +kernel))
set_option maxRecDepth 20000 in
theorem gX3_fit_X3_checkOrder : GoodIn wsX3_fit (wsV RX3 108 RX3 yX3_checkOrder wsX3_checkOrder) := goodIn_app (goodIn_of _ (by decide +kernel)) ggX3_fit_X3_checkOrder
set_option maxRecDepth 20000 in
theorem ggX3_fit_X3_isDone : GoodIn wsX3_fit wsX3_isDone := goodIn_r _ [17, 18, 3, 19, 20, 21, 9, 22, 23, 24, 25, 26, 27, 28, 29, 30, 31, 32, 33, 34] (by decide +kernel) (by decide +kernel)
set_option maxRecDepth 20000 in
theorem gX3_fit_X3_isDone : GoodIn wsX3_fit (wsV RX3 144 RX3 yX3_isDone wsX3_isDone) := goodIn_app (goodIn_of _ (by decide +kernel)) ggX3_fit_X3_isDone
theorem dX3_fit_0 : decode cX3_fit 0 = .ok (.aload_n 0, 1) := by decide +kernel
theorem dX3_fit_1 : decode cX3_fit 1 = .ok (.iload_n 1, 1) := by decide +kernel
theorem dX3_fit_2 : decode cX3_fit 2 = .ok (.invokevirtual 108, 3) := by decide +kernel
theorem dX3_fit_5 : decode cX3_fit 5 = .ok (.iload_n 2, 1) := by decide +kernel
theorem dX3_fit_6 : decode cX3_fit 6 = .ok (.bipush (-2), 2) := by decide +kernel
theorem dX3_fit_8 : decode cX3_fit 8 = .ok (.if_icmp .lt 8, 3) := by decide +kernel
theorem dX3_fit_11 : decode cX3_fit 11 = .ok (.iload_n 2, 1) := by decide +kernel
theorem dX3_fit_12 : decode cX3_fit 12 = .ok (.iconst 2, 1) := by decide +kernel
theorem dX3_fit_13 : decode cX3_fit 13 = .ok (.if_icmp .le 13, 3) := by decide +kernel
theorem dX3_fit_16 : decode cX3_fit 16 = .ok (.new 62, 3) := by decide +kernel
theorem dX3_fit_19 : decode cX3_fit 19 = .ok (.dup, 1) := by decide +kernel
theorem dX3_fit_20 : decode cX3_fit 20 = .ok (.ldc 142, 2) := by decide +kernel
theorem dX3_fit_22 : decode cX3_fit 22 = .ok (.invokespecial 66, 3) := by decide +kernel
theorem dX3_fit_25 : decode cX3_fit 25 = .ok (.athrow, 1) := by decide +kernel
theorem dX3_fit_26 : decode cX3_fit 26 = .ok (.aload_n 0, 1) := by decide +kernel
theorem dX3_fit_27 : decode cX3_fit 27 = .ok (.iload_n 1, 1) := by decide +kernel
theorem dX3_fit_28 : decode cX3_fit 28 = .ok (.invokevirtual 144, 3) := by decide +kernel
theorem dX3_fit_31 : decode cX3_fit 31 = .ok (.ifCond .ne 5, 3) := by decide +kernel
theorem dX3_fit_34 : decode cX3_fit 34 = .ok (.iconst (-1), 1) := by decide +kernel
theorem dX3_fit_35 : decode cX3_fit 35 = .ok (.ireturn, 1) := by decide +kernel
theorem dX3_fit_36 : decode cX3_fit 36 = .ok (.aload_n 0, 1) := by decide +kernel
theorem dX3_fit_37 : decode cX3_fit 37 = .ok (.getfield 29, 3) := by decide +kernel
theorem dX3_fit_40 : decode cX3_fit 40 = .ok (.iload_n 1, 1) := by decide +kernel
theorem dX3_fit_41 : decode cX3_fit 41 = .ok (.aaload, 1) := by decide +kernel
theorem dX3_fit_42 : decode cX3_fit 42 = .ok (.astore_n 3, 1) := by decide +kernel
theorem dX3_fit_43 : decode cX3_fit 43 = .ok (.aload_n 3, 1) := by decide +kernel
theorem dX3_fit_44 : decode cX3_fit 44 = .ok (.bipush 12, 2) := by decide +kernel
theorem dX3_fit_46 : decode cX3_fit 46 = .ok (.iaload, 1) := by decide +kernel
theorem dX3_fit_47 : decode cX3_fit 47 = .ok (.ifCond .eq 5, 3) := by decide +kernel
theorem dX3_fit_50 : decode cX3_fit 50 = .ok (.iconst 0, 1) := by decide +kernel
theorem dX3_fit_51 : decode cX3_fit 51 = .ok (.ireturn, 1) := by decide +kernel
theorem dX3_fit_52 : decode cX3_fit 52 = .ok (.aload_n 3, 1) := by decide +kernel
theorem dX3_fit_53 : decode cX3_fit 53 = .ok (.bipush 12, 2) := by decide +kernel
theorem dX3_fit_55 : decode cX3_fit 55 = .ok (.iconst 1, 1) := by decide +kernel
theorem dX3_fit_56 : decode cX3_fit 56 = .ok (.iastore, 1) := by decide +kernel
theorem dX3_fit_57 : decode cX3_fit 57 = .ok (.aload_n 0, 1) := by decide +kernel
theorem dX3_fit_58 : decode cX3_fit 58 = .ok (.getfield 23, 3) := by decide +kernel
theorem dX3_fit_61 : decode cX3_fit 61 = .ok (.getfield 147, 3) := by decide +kernel
theorem dX3_fit_64 : decode cX3_fit 64 = .ok (.aload_n 3, 1) := by decide +kernel
theorem dX3_fit_65 : decode cX3_fit 65 = .ok (.iconst 0, 1) := by decide +kernel
theorem dX3_fit_66 : decode cX3_fit 66 = .ok (.iaload, 1) := by decide +kernel
theorem dX3_fit_67 : decode cX3_fit 67 = .ok (.aaload, 1) := by decide +kernel
theorem dX3_fit_68 : decode cX3_fit 68 = .ok (.astore 4, 2) := by decide +kernel
theorem dX3_fit_70 : decode cX3_fit 70 = .ok (.aload 4, 2) := by decide +kernel
theorem dX3_fit_72 : decode cX3_fit 72 = .ok (.iconst 1, 1) := by decide +kernel
theorem dX3_fit_73 : decode cX3_fit 73 = .ok (.dup2, 1) := by decide +kernel
theorem dX3_fit_74 : decode cX3_fit 74 = .ok (.iaload, 1) := by decide +kernel
theorem dX3_fit_75 : decode cX3_fit 75 = .ok (.iconst 1, 1) := by decide +kernel
theorem dX3_fit_76 : decode cX3_fit 76 = .ok (.iadd, 1) := by decide +kernel
theorem dX3_fit_77 : decode cX3_fit 77 = .ok (.iastore, 1) := by decide +kernel
theorem dX3_fit_78 : decode cX3_fit 78 = .ok (.aload 4, 2) := by decide +kernel
theorem dX3_fit_80 : decode cX3_fit 80 = .ok (.iconst 2, 1) := by decide +kernel
theorem dX3_fit_81 : decode cX3_fit 81 = .ok (.dup2, 1) := by decide +kernel
theorem dX3_fit_82 : decode cX3_fit 82 = .ok (.iaload, 1) := by decide +kernel
theorem dX3_fit_83 : decode cX3_fit 83 = .ok (.iload_n 2, 1) := by decide +kernel
theorem dX3_fit_84 : decode cX3_fit 84 = .ok (.iadd, 1) := by decide +kernel
theorem dX3_fit_85 : decode cX3_fit 85 = .ok (.iastore, 1) := by decide +kernel
theorem dX3_fit_86 : decode cX3_fit 86 = .ok (.iconst 1, 1) := by decide +kernel
theorem dX3_fit_87 : decode cX3_fit 87 = .ok (.ireturn, 1) := by decide +kernel
set_option maxRecDepth 20000 in
theorem ggX3_wear_X3_checkBlock : GoodIn wsX3_wear wsX3_checkBlock := goodIn_ca (goodIn_r _ [9, 10, 11, 3, 12, 13, 14, 15, 16, 17, 18, 19, 20, 21, 22, 23, 24, 25, 26, 27, 28, 29] (by decide +kernel) (by decide +kernel)) (goodIn_sub (fun _ h => List.mem_cons_of_mem _ (List.mem_append_right _ h)) (by decide +kernel))
set_option maxRecDepth 20000 in
theorem gX3_wear_X3_checkBlock : GoodIn wsX3_wear (wsV RX3 99 RX3 yX3_checkBlock wsX3_checkBlock) := goodIn_app (goodIn_of _ (by decide +kernel)) ggX3_wear_X3_checkBlock
theorem dX3_wear_0 : decode cX3_wear 0 = .ok (.aload_n 0, 1) := by decide +kernel
theorem dX3_wear_1 : decode cX3_wear 1 = .ok (.iload_n 1, 1) := by decide +kernel
theorem dX3_wear_2 : decode cX3_wear 2 = .ok (.invokevirtual 99, 3) := by decide +kernel
theorem dX3_wear_5 : decode cX3_wear 5 = .ok (.iload_n 2, 1) := by decide +kernel
theorem dX3_wear_6 : decode cX3_wear 6 = .ok (.ifCond .lt 8, 3) := by decide +kernel
theorem dX3_wear_9 : decode cX3_wear 9 = .ok (.iload_n 2, 1) := by decide +kernel
theorem dX3_wear_10 : decode cX3_wear 10 = .ok (.iconst 2, 1) := by decide +kernel
theorem dX3_wear_11 : decode cX3_wear 11 = .ok (.if_icmp .le 13, 3) := by decide +kernel
theorem dX3_wear_14 : decode cX3_wear 14 = .ok (.new 62, 3) := by decide +kernel
theorem dX3_wear_17 : decode cX3_wear 17 = .ok (.dup, 1) := by decide +kernel
theorem dX3_wear_18 : decode cX3_wear 18 = .ok (.ldc 150, 2) := by decide +kernel
theorem dX3_wear_20 : decode cX3_wear 20 = .ok (.invokespecial 66, 3) := by decide +kernel
theorem dX3_wear_23 : decode cX3_wear 23 = .ok (.athrow, 1) := by decide +kernel
theorem dX3_wear_24 : decode cX3_wear 24 = .ok (.aload_n 0, 1) := by decide +kernel
theorem dX3_wear_25 : decode cX3_wear 25 = .ok (.getfield 23, 3) := by decide +kernel
theorem dX3_wear_28 : decode cX3_wear 28 = .ok (.getfield 147, 3) := by decide +kernel
theorem dX3_wear_31 : decode cX3_wear 31 = .ok (.iload_n 1, 1) := by decide +kernel
theorem dX3_wear_32 : decode cX3_wear 32 = .ok (.aaload, 1) := by decide +kernel
theorem dX3_wear_33 : decode cX3_wear 33 = .ok (.iload_n 2, 1) := by decide +kernel
theorem dX3_wear_34 : decode cX3_wear 34 = .ok (.iaload, 1) := by decide +kernel
theorem dX3_wear_35 : decode cX3_wear 35 = .ok (.ireturn, 1) := by decide +kernel
set_option maxRecDepth 20000 in
theorem ggX3_count_X3_countWaiting : GoodIn wsX3_count wsX3_countWaiting := goodIn_r _ [13, 3, 14, 15, 16, 12, 17, 18, 19, 20, 21, 22, 23, 24, 25, 26, 27, 28, 29, 30] (by decide +kernel) (by decide +kernel)
set_option maxRecDepth 20000 in
theorem gX3_count_X3_countWaiting : GoodIn wsX3_count (wsV RX3 152 RX3 yX3_countWaiting wsX3_countWaiting) := goodIn_app (goodIn_of _ (by decide +kernel)) ggX3_count_X3_countWaiting
theorem dX3_count_0 : decode cX3_count 0 = .ok (.iload_n 1, 1) := by decide +kernel
theorem dX3_count_1 : decode cX3_count 1 = .ok (.tableswitch 84 0 6 #[43, 51, 56, 61, 66, 71, 79], 43) := by decide +kernel
theorem dX3_count_44 : decode cX3_count 44 = .ok (.aload_n 0, 1) := by decide +kernel
theorem dX3_count_45 : decode cX3_count 45 = .ok (.getfield 23, 3) := by decide +kernel
theorem dX3_count_48 : decode cX3_count 48 = .ok (.getfield 69, 3) := by decide +kernel
theorem dX3_count_51 : decode cX3_count 51 = .ok (.ireturn, 1) := by decide +kernel
theorem dX3_count_52 : decode cX3_count 52 = .ok (.aload_n 0, 1) := by decide +kernel
theorem dX3_count_53 : decode cX3_count 53 = .ok (.getfield 43, 3) := by decide +kernel
theorem dX3_count_56 : decode cX3_count 56 = .ok (.ireturn, 1) := by decide +kernel
theorem dX3_count_57 : decode cX3_count 57 = .ok (.aload_n 0, 1) := by decide +kernel
theorem dX3_count_58 : decode cX3_count 58 = .ok (.invokevirtual 152, 3) := by decide +kernel
theorem dX3_count_61 : decode cX3_count 61 = .ok (.ireturn, 1) := by decide +kernel
theorem dX3_count_62 : decode cX3_count 62 = .ok (.aload_n 0, 1) := by decide +kernel
theorem dX3_count_63 : decode cX3_count 63 = .ok (.getfield 46, 3) := by decide +kernel
theorem dX3_count_66 : decode cX3_count 66 = .ok (.ireturn, 1) := by decide +kernel
theorem dX3_count_67 : decode cX3_count 67 = .ok (.aload_n 0, 1) := by decide +kernel
theorem dX3_count_68 : decode cX3_count 68 = .ok (.getfield 39, 3) := by decide +kernel
theorem dX3_count_71 : decode cX3_count 71 = .ok (.ireturn, 1) := by decide +kernel
theorem dX3_count_72 : decode cX3_count 72 = .ok (.aload_n 0, 1) := by decide +kernel
theorem dX3_count_73 : decode cX3_count 73 = .ok (.getfield 16, 3) := by decide +kernel
theorem dX3_count_76 : decode cX3_count 76 = .ok (.getfield 81, 3) := by decide +kernel
theorem dX3_count_79 : decode cX3_count 79 = .ok (.ireturn, 1) := by decide +kernel
theorem dX3_count_80 : decode cX3_count 80 = .ok (.aload_n 0, 1) := by decide +kernel
theorem dX3_count_81 : decode cX3_count 81 = .ok (.getfield 49, 3) := by decide +kernel
theorem dX3_count_84 : decode cX3_count 84 = .ok (.ireturn, 1) := by decide +kernel
theorem dX3_count_85 : decode cX3_count 85 = .ok (.iconst (-1), 1) := by decide +kernel
theorem dX3_count_86 : decode cX3_count 86 = .ok (.ireturn, 1) := by decide +kernel
theorem dX3_checkBlock_0 : decode cX3_checkBlock 0 = .ok (.iload_n 1, 1) := by decide +kernel
theorem dX3_checkBlock_1 : decode cX3_checkBlock 1 = .ok (.ifCond .lt 14, 3) := by decide +kernel
theorem dX3_checkBlock_4 : decode cX3_checkBlock 4 = .ok (.iload_n 1, 1) := by decide +kernel
theorem dX3_checkBlock_5 : decode cX3_checkBlock 5 = .ok (.aload_n 0, 1) := by decide +kernel
theorem dX3_checkBlock_6 : decode cX3_checkBlock 6 = .ok (.getfield 23, 3) := by decide +kernel
theorem dX3_checkBlock_9 : decode cX3_checkBlock 9 = .ok (.getfield 69, 3) := by decide +kernel
theorem dX3_checkBlock_12 : decode cX3_checkBlock 12 = .ok (.if_icmp .lt 13, 3) := by decide +kernel
theorem dX3_checkBlock_15 : decode cX3_checkBlock 15 = .ok (.new 156, 3) := by decide +kernel
theorem dX3_checkBlock_18 : decode cX3_checkBlock 18 = .ok (.dup, 1) := by decide +kernel
theorem dX3_checkBlock_19 : decode cX3_checkBlock 19 = .ok (.ldc 158, 2) := by decide +kernel
theorem dX3_checkBlock_21 : decode cX3_checkBlock 21 = .ok (.invokespecial 160, 3) := by decide +kernel
theorem dX3_checkBlock_24 : decode cX3_checkBlock 24 = .ok (.athrow, 1) := by decide +kernel
theorem dX3_checkBlock_25 : decode cX3_checkBlock 25 = .ok (.return_, 1) := by decide +kernel
theorem dX3_checkOrder_0 : decode cX3_checkOrder 0 = .ok (.iload_n 1, 1) := by decide +kernel
theorem dX3_checkOrder_1 : decode cX3_checkOrder 1 = .ok (.ifCond .lt 11, 3) := by decide +kernel
theorem dX3_checkOrder_4 : decode cX3_checkOrder 4 = .ok (.iload_n 1, 1) := by decide +kernel
theorem dX3_checkOrder_5 : decode cX3_checkOrder 5 = .ok (.aload_n 0, 1) := by decide +kernel
theorem dX3_checkOrder_6 : decode cX3_checkOrder 6 = .ok (.getfield 43, 3) := by decide +kernel
theorem dX3_checkOrder_9 : decode cX3_checkOrder 9 = .ok (.if_icmp .lt 13, 3) := by decide +kernel
theorem dX3_checkOrder_12 : decode cX3_checkOrder 12 = .ok (.new 156, 3) := by decide +kernel
theorem dX3_checkOrder_15 : decode cX3_checkOrder 15 = .ok (.dup, 1) := by decide +kernel
theorem dX3_checkOrder_16 : decode cX3_checkOrder 16 = .ok (.ldc 161, 2) := by decide +kernel
theorem dX3_checkOrder_18 : decode cX3_checkOrder 18 = .ok (.invokespecial 160, 3) := by decide +kernel
theorem dX3_checkOrder_21 : decode cX3_checkOrder 21 = .ok (.athrow, 1) := by decide +kernel
theorem dX3_checkOrder_22 : decode cX3_checkOrder 22 = .ok (.return_, 1) := by decide +kernel
theorem dX3_checkOrderArguments_0 : decode cX3_checkOrderArguments 0 = .ok (.iload_n 1, 1) := by decide +kernel
theorem dX3_checkOrderArguments_1 : decode cX3_checkOrderArguments 1 = .ok (.ifCond .lt 14, 3) := by decide +kernel
theorem dX3_checkOrderArguments_4 : decode cX3_checkOrderArguments 4 = .ok (.iload_n 1, 1) := by decide +kernel
theorem dX3_checkOrderArguments_5 : decode cX3_checkOrderArguments 5 = .ok (.aload_n 0, 1) := by decide +kernel
theorem dX3_checkOrderArguments_6 : decode cX3_checkOrderArguments 6 = .ok (.getfield 16, 3) := by decide +kernel
theorem dX3_checkOrderArguments_9 : decode cX3_checkOrderArguments 9 = .ok (.getfield 81, 3) := by decide +kernel
theorem dX3_checkOrderArguments_12 : decode cX3_checkOrderArguments 12 = .ok (.if_icmp .le 13, 3) := by decide +kernel
theorem dX3_checkOrderArguments_15 : decode cX3_checkOrderArguments 15 = .ok (.new 62, 3) := by decide +kernel
theorem dX3_checkOrderArguments_18 : decode cX3_checkOrderArguments 18 = .ok (.dup, 1) := by decide +kernel
theorem dX3_checkOrderArguments_19 : decode cX3_checkOrderArguments 19 = .ok (.ldc 163, 2) := by decide +kernel
theorem dX3_checkOrderArguments_21 : decode cX3_checkOrderArguments 21 = .ok (.invokespecial 66, 3) := by decide +kernel
theorem dX3_checkOrderArguments_24 : decode cX3_checkOrderArguments 24 = .ok (.athrow, 1) := by decide +kernel
theorem dX3_checkOrderArguments_25 : decode cX3_checkOrderArguments 25 = .ok (.iload_n 2, 1) := by decide +kernel
theorem dX3_checkOrderArguments_26 : decode cX3_checkOrderArguments 26 = .ok (.ifCond .lt 9, 3) := by decide +kernel
theorem dX3_checkOrderArguments_29 : decode cX3_checkOrderArguments 29 = .ok (.iload_n 2, 1) := by decide +kernel
theorem dX3_checkOrderArguments_30 : decode cX3_checkOrderArguments 30 = .ok (.ldc 125, 2) := by decide +kernel
theorem dX3_checkOrderArguments_32 : decode cX3_checkOrderArguments 32 = .ok (.if_icmp .le 13, 3) := by decide +kernel
theorem dX3_checkOrderArguments_35 : decode cX3_checkOrderArguments 35 = .ok (.new 62, 3) := by decide +kernel
theorem dX3_checkOrderArguments_38 : decode cX3_checkOrderArguments 38 = .ok (.dup, 1) := by decide +kernel
theorem dX3_checkOrderArguments_39 : decode cX3_checkOrderArguments 39 = .ok (.ldc 165, 2) := by decide +kernel
theorem dX3_checkOrderArguments_41 : decode cX3_checkOrderArguments 41 = .ok (.invokespecial 66, 3) := by decide +kernel
theorem dX3_checkOrderArguments_44 : decode cX3_checkOrderArguments 44 = .ok (.athrow, 1) := by decide +kernel
theorem dX3_checkOrderArguments_45 : decode cX3_checkOrderArguments 45 = .ok (.iload_n 3, 1) := by decide +kernel
theorem dX3_checkOrderArguments_46 : decode cX3_checkOrderArguments 46 = .ok (.iconst 1, 1) := by decide +kernel
theorem dX3_checkOrderArguments_47 : decode cX3_checkOrderArguments 47 = .ok (.if_icmp .lt 9, 3) := by decide +kernel
theorem dX3_checkOrderArguments_50 : decode cX3_checkOrderArguments 50 = .ok (.iload_n 3, 1) := by decide +kernel
theorem dX3_checkOrderArguments_51 : decode cX3_checkOrderArguments 51 = .ok (.bipush 9, 2) := by decide +kernel
theorem dX3_checkOrderArguments_53 : decode cX3_checkOrderArguments 53 = .ok (.if_icmp .le 13, 3) := by decide +kernel
theorem dX3_checkOrderArguments_56 : decode cX3_checkOrderArguments 56 = .ok (.new 62, 3) := by decide +kernel
theorem dX3_checkOrderArguments_59 : decode cX3_checkOrderArguments 59 = .ok (.dup, 1) := by decide +kernel
theorem dX3_checkOrderArguments_60 : decode cX3_checkOrderArguments 60 = .ok (.ldc 167, 2) := by decide +kernel
theorem dX3_checkOrderArguments_62 : decode cX3_checkOrderArguments 62 = .ok (.invokespecial 66, 3) := by decide +kernel
theorem dX3_checkOrderArguments_65 : decode cX3_checkOrderArguments 65 = .ok (.athrow, 1) := by decide +kernel
theorem dX3_checkOrderArguments_66 : decode cX3_checkOrderArguments 66 = .ok (.return_, 1) := by decide +kernel
set_option maxRecDepth 20000 in
theorem ggX3_addOrder_X0_match : GoodIn wsX3_addOrder wsX0_match := goodIn_r _ [11, 12, 13, 14, 15, 16, 10, 17, 18, 49, 50, 51, 52, 53] (by decide +kernel) (by decide +kernel)
set_option maxRecDepth 20000 in
theorem gX3_addOrder_X0_match : GoodIn wsX3_addOrder (wsV RX3 169 RX0 yX0_match wsX0_match) := goodIn_app (goodIn_of _ (by decide +kernel)) ggX3_addOrder_X0_match
set_option maxRecDepth 20000 in
theorem ggX3_addOrder_X2_price : GoodIn wsX3_addOrder wsX2_price := goodIn_r _ [23, 24, 25, 26, 22, 27, 28, 54, 55, 56, 57, 58, 59, 60] (by decide +kernel) (by decide +kernel)
set_option maxRecDepth 20000 in
theorem gX3_addOrder_X2_price : GoodIn wsX3_addOrder (wsV RX3 173 RX2 yX2_price wsX2_price) := goodIn_app (goodIn_of _ (by decide +kernel)) ggX3_addOrder_X2_price
set_option maxRecDepth 20000 in
theorem ggX3_addOrder_X2_steamMinutes : GoodIn wsX3_addOrder wsX2_steamMinutes := goodIn_r _ [32, 24, 25, 26, 22, 27, 28, 54, 55, 56, 57, 58, 59, 60] (by decide +kernel) (by decide +kernel)
set_option maxRecDepth 20000 in
theorem gX3_addOrder_X2_steamMinutes : GoodIn wsX3_addOrder (wsV RX3 176 RX2 yX2_steamMinutes wsX2_steamMinutes) := goodIn_app (goodIn_of _ (by decide +kernel)) ggX3_addOrder_X2_steamMinutes
set_option maxRecDepth 20000 in
theorem ggX3_addOrder_X2_onMinutes : GoodIn wsX3_addOrder wsX2_onMinutes := goodIn_r _ [36, 24, 25, 26, 22, 27, 28, 54, 55, 56, 57, 58, 59, 60] (by decide +kernel) (by decide +kernel)
set_option maxRecDepth 20000 in
theorem gX3_addOrder_X2_onMinutes : GoodIn wsX3_addOrder (wsV RX3 179 RX2 yX2_onMinutes wsX2_onMinutes) := goodIn_app (goodIn_of _ (by decide +kernel)) ggX3_addOrder_X2_onMinutes
theorem dX3_addOrder_0 : decode cX3_addOrder 0 = .ok (.aload_n 0, 1) := by decide +kernel
theorem dX3_addOrder_1 : decode cX3_addOrder 1 = .ok (.getfield 43, 3) := by decide +kernel
theorem dX3_addOrder_4 : decode cX3_addOrder 4 = .ok (.istore_n 3, 1) := by decide +kernel
theorem dX3_addOrder_5 : decode cX3_addOrder 5 = .ok (.aload_n 0, 1) := by decide +kernel
theorem dX3_addOrder_6 : decode cX3_addOrder 6 = .ok (.getfield 29, 3) := by decide +kernel
theorem dX3_addOrder_9 : decode cX3_addOrder 9 = .ok (.iload_n 3, 1) := by decide +kernel
theorem dX3_addOrder_10 : decode cX3_addOrder 10 = .ok (.aaload, 1) := by decide +kernel
theorem dX3_addOrder_11 : decode cX3_addOrder 11 = .ok (.astore 4, 2) := by decide +kernel
theorem dX3_addOrder_13 : decode cX3_addOrder 13 = .ok (.aload_n 0, 1) := by decide +kernel
theorem dX3_addOrder_14 : decode cX3_addOrder 14 = .ok (.getfield 23, 3) := by decide +kernel
theorem dX3_addOrder_17 : decode cX3_addOrder 17 = .ok (.aload_n 0, 1) := by decide +kernel
theorem dX3_addOrder_18 : decode cX3_addOrder 18 = .ok (.getfield 9, 3) := by decide +kernel
theorem dX3_addOrder_21 : decode cX3_addOrder 21 = .ok (.aload 4, 2) := by decide +kernel
theorem dX3_addOrder_23 : decode cX3_addOrder 23 = .ok (.invokevirtual 169, 3) := by decide +kernel
theorem dX3_addOrder_26 : decode cX3_addOrder 26 = .ok (.aload 4, 2) := by decide +kernel
theorem dX3_addOrder_28 : decode cX3_addOrder 28 = .ok (.iconst 3, 1) := by decide +kernel
theorem dX3_addOrder_29 : decode cX3_addOrder 29 = .ok (.aload_n 0, 1) := by decide +kernel
theorem dX3_addOrder_30 : decode cX3_addOrder 30 = .ok (.getfield 16, 3) := by decide +kernel
theorem dX3_addOrder_33 : decode cX3_addOrder 33 = .ok (.invokevirtual 173, 3) := by decide +kernel
theorem dX3_addOrder_36 : decode cX3_addOrder 36 = .ok (.iastore, 1) := by decide +kernel
theorem dX3_addOrder_37 : decode cX3_addOrder 37 = .ok (.aload 4, 2) := by decide +kernel
theorem dX3_addOrder_39 : decode cX3_addOrder 39 = .ok (.iconst 4, 1) := by decide +kernel
theorem dX3_addOrder_40 : decode cX3_addOrder 40 = .ok (.aload_n 0, 1) := by decide +kernel
theorem dX3_addOrder_41 : decode cX3_addOrder 41 = .ok (.getfield 16, 3) := by decide +kernel
theorem dX3_addOrder_44 : decode cX3_addOrder 44 = .ok (.invokevirtual 176, 3) := by decide +kernel
theorem dX3_addOrder_47 : decode cX3_addOrder 47 = .ok (.iastore, 1) := by decide +kernel
theorem dX3_addOrder_48 : decode cX3_addOrder 48 = .ok (.aload 4, 2) := by decide +kernel
theorem dX3_addOrder_50 : decode cX3_addOrder 50 = .ok (.iconst 5, 1) := by decide +kernel
theorem dX3_addOrder_51 : decode cX3_addOrder 51 = .ok (.aload_n 0, 1) := by decide +kernel
theorem dX3_addOrder_52 : decode cX3_addOrder 52 = .ok (.getfield 16, 3) := by decide +kernel
theorem dX3_addOrder_55 : decode cX3_addOrder 55 = .ok (.invokevirtual 179, 3) := by decide +kernel
theorem dX3_addOrder_58 : decode cX3_addOrder 58 = .ok (.iastore, 1) := by decide +kernel
theorem dX3_addOrder_59 : decode cX3_addOrder 59 = .ok (.aload 4, 2) := by decide +kernel
theorem dX3_addOrder_61 : decode cX3_addOrder 61 = .ok (.bipush 6, 2) := by decide +kernel
theorem dX3_addOrder_63 : decode cX3_addOrder 63 = .ok (.iload_n 1, 1) := by decide +kernel
theorem dX3_addOrder_64 : decode cX3_addOrder 64 = .ok (.iastore, 1) := by decide +kernel
theorem dX3_addOrder_65 : decode cX3_addOrder 65 = .ok (.aload 4, 2) := by decide +kernel
theorem dX3_addOrder_67 : decode cX3_addOrder 67 = .ok (.bipush 7, 2) := by decide +kernel
theorem dX3_addOrder_69 : decode cX3_addOrder 69 = .ok (.iload_n 2, 1) := by decide +kernel
theorem dX3_addOrder_70 : decode cX3_addOrder 70 = .ok (.iastore, 1) := by decide +kernel
theorem dX3_addOrder_71 : decode cX3_addOrder 71 = .ok (.aload 4, 2) := by decide +kernel
theorem dX3_addOrder_73 : decode cX3_addOrder 73 = .ok (.bipush 9, 2) := by decide +kernel
theorem dX3_addOrder_75 : decode cX3_addOrder 75 = .ok (.iconst (-1), 1) := by decide +kernel
theorem dX3_addOrder_76 : decode cX3_addOrder 76 = .ok (.iastore, 1) := by decide +kernel
theorem dX3_addOrder_77 : decode cX3_addOrder 77 = .ok (.aload 4, 2) := by decide +kernel
theorem dX3_addOrder_79 : decode cX3_addOrder 79 = .ok (.bipush 10, 2) := by decide +kernel
theorem dX3_addOrder_81 : decode cX3_addOrder 81 = .ok (.iconst (-1), 1) := by decide +kernel
theorem dX3_addOrder_82 : decode cX3_addOrder 82 = .ok (.iastore, 1) := by decide +kernel
theorem dX3_addOrder_83 : decode cX3_addOrder 83 = .ok (.aload 4, 2) := by decide +kernel
theorem dX3_addOrder_85 : decode cX3_addOrder 85 = .ok (.bipush 11, 2) := by decide +kernel
theorem dX3_addOrder_87 : decode cX3_addOrder 87 = .ok (.iconst (-1), 1) := by decide +kernel
theorem dX3_addOrder_88 : decode cX3_addOrder 88 = .ok (.iastore, 1) := by decide +kernel
theorem dX3_addOrder_89 : decode cX3_addOrder 89 = .ok (.aload 4, 2) := by decide +kernel
theorem dX3_addOrder_91 : decode cX3_addOrder 91 = .ok (.bipush 12, 2) := by decide +kernel
theorem dX3_addOrder_93 : decode cX3_addOrder 93 = .ok (.iconst 0, 1) := by decide +kernel
theorem dX3_addOrder_94 : decode cX3_addOrder 94 = .ok (.iastore, 1) := by decide +kernel
theorem dX3_addOrder_95 : decode cX3_addOrder 95 = .ok (.aload_n 0, 1) := by decide +kernel
theorem dX3_addOrder_96 : decode cX3_addOrder 96 = .ok (.dup, 1) := by decide +kernel
theorem dX3_addOrder_97 : decode cX3_addOrder 97 = .ok (.getfield 43, 3) := by decide +kernel
theorem dX3_addOrder_100 : decode cX3_addOrder 100 = .ok (.iconst 1, 1) := by decide +kernel
theorem dX3_addOrder_101 : decode cX3_addOrder 101 = .ok (.iadd, 1) := by decide +kernel
theorem dX3_addOrder_102 : decode cX3_addOrder 102 = .ok (.putfield 43, 3) := by decide +kernel
theorem dX3_addOrder_105 : decode cX3_addOrder 105 = .ok (.aload_n 0, 1) := by decide +kernel
theorem dX3_addOrder_106 : decode cX3_addOrder 106 = .ok (.iconst 0, 1) := by decide +kernel
theorem dX3_addOrder_107 : decode cX3_addOrder 107 = .ok (.putfield 58, 3) := by decide +kernel
theorem dX3_addOrder_110 : decode cX3_addOrder 110 = .ok (.iload_n 3, 1) := by decide +kernel
theorem dX3_addOrder_111 : decode cX3_addOrder 111 = .ok (.ireturn, 1) := by decide +kernel
theorem dX3_isWaiting_0 : decode cX3_isWaiting 0 = .ok (.aload_n 0, 1) := by decide +kernel
theorem dX3_isWaiting_1 : decode cX3_isWaiting 1 = .ok (.getfield 29, 3) := by decide +kernel
theorem dX3_isWaiting_4 : decode cX3_isWaiting 4 = .ok (.iload_n 1, 1) := by decide +kernel
theorem dX3_isWaiting_5 : decode cX3_isWaiting 5 = .ok (.aaload, 1) := by decide +kernel
theorem dX3_isWaiting_6 : decode cX3_isWaiting 6 = .ok (.bipush 9, 2) := by decide +kernel
theorem dX3_isWaiting_8 : decode cX3_isWaiting 8 = .ok (.iaload, 1) := by decide +kernel
theorem dX3_isWaiting_9 : decode cX3_isWaiting 9 = .ok (.iconst (-1), 1) := by decide +kernel
theorem dX3_isWaiting_10 : decode cX3_isWaiting 10 = .ok (.if_icmp .ne 7, 3) := by decide +kernel
theorem dX3_isWaiting_13 : decode cX3_isWaiting 13 = .ok (.iconst 1, 1) := by decide +kernel
theorem dX3_isWaiting_14 : decode cX3_isWaiting 14 = .ok (.goto 4, 3) := by decide +kernel
theorem dX3_isWaiting_17 : decode cX3_isWaiting 17 = .ok (.iconst 0, 1) := by decide +kernel
theorem dX3_isWaiting_18 : decode cX3_isWaiting 18 = .ok (.ireturn, 1) := by decide +kernel
set_option maxRecDepth 20000 in
theorem ggX3_isDone_X3_isWaiting : GoodIn wsX3_isDone wsX3_isWaiting := goodIn_r _ [7, 2, 8, 9, 10, 11, 12, 13, 14, 15, 16, 17, 18, 19] (by decide +kernel) (by decide +kernel)
set_option maxRecDepth 20000 in
theorem gX3_isDone_X3_isWaiting : GoodIn wsX3_isDone (wsV RX3 116 RX3 yX3_isWaiting wsX3_isWaiting) := goodIn_app (goodIn_of _ (by decide +kernel)) ggX3_isDone_X3_isWaiting
theorem dX3_isDone_0 : decode cX3_isDone 0 = .ok (.aload_n 0, 1) := by decide +kernel
theorem dX3_isDone_1 : decode cX3_isDone 1 = .ok (.iload_n 1, 1) := by decide +kernel
theorem dX3_isDone_2 : decode cX3_isDone 2 = .ok (.invokevirtual 116, 3) := by decide +kernel
theorem dX3_isDone_5 : decode cX3_isDone 5 = .ok (.ifCond .ne 23, 3) := by decide +kernel
theorem dX3_isDone_8 : decode cX3_isDone 8 = .ok (.aload_n 0, 1) := by decide +kernel
theorem dX3_isDone_9 : decode cX3_isDone 9 = .ok (.getfield 46, 3) := by decide +kernel
theorem dX3_isDone_12 : decode cX3_isDone 12 = .ok (.aload_n 0, 1) := by decide +kernel
theorem dX3_isDone_13 : decode cX3_isDone 13 = .ok (.getfield 29, 3) := by decide +kernel
theorem dX3_isDone_16 : decode cX3_isDone 16 = .ok (.iload_n 1, 1) := by decide +kernel
theorem dX3_isDone_17 : decode cX3_isDone 17 = .ok (.aaload, 1) := by decide +kernel
theorem dX3_isDone_18 : decode cX3_isDone 18 = .ok (.bipush 10, 2) := by decide +kernel
theorem dX3_isDone_20 : decode cX3_isDone 20 = .ok (.iaload, 1) := by decide +kernel
theorem dX3_isDone_21 : decode cX3_isDone 21 = .ok (.if_icmp .lt 7, 3) := by decide +kernel
theorem dX3_isDone_24 : decode cX3_isDone 24 = .ok (.iconst 1, 1) := by decide +kernel
theorem dX3_isDone_25 : decode cX3_isDone 25 = .ok (.goto 4, 3) := by decide +kernel
theorem dX3_isDone_28 : decode cX3_isDone 28 = .ok (.iconst 0, 1) := by decide +kernel
theorem dX3_isDone_29 : decode cX3_isDone 29 = .ok (.ireturn, 1) := by decide +kernel
set_option maxRecDepth 20000 in
theorem ggX3_stateOf_X3_isWaiting : GoodIn wsX3_stateOf wsX3_isWaiting := goodIn_r _ [5, 6, 12, 13, 14, 15, 16, 17, 18, 19, 20, 21, 22, 23] (by decide +kernel) (by decide +kernel)
set_option maxRecDepth 20000 in
theorem gX3_stateOf_X3_isWaiting : GoodIn wsX3_stateOf (wsV RX3 116 RX3 yX3_isWaiting wsX3_isWaiting) := goodIn_app (goodIn_of _ (by decide +kernel)) ggX3_stateOf_X3_isWaiting
set_option maxRecDepth 20000 in
theorem ggX3_stateOf_X3_isDone : GoodIn wsX3_stateOf wsX3_isDone := goodIn_r _ [10, 11, 6, 1, 2, 3, 4, 5, 12, 13, 14, 15, 16, 17, 18, 19, 20, 21, 22, 23] (by decide +kernel) (by decide +kernel)
set_option maxRecDepth 20000 in
theorem gX3_stateOf_X3_isDone : GoodIn wsX3_stateOf (wsV RX3 144 RX3 yX3_isDone wsX3_isDone) := goodIn_app (goodIn_of _ (by decide +kernel)) ggX3_stateOf_X3_isDone
theorem dX3_stateOf_0 : decode cX3_stateOf 0 = .ok (.aload_n 0, 1) := by decide +kernel
theorem dX3_stateOf_1 : decode cX3_stateOf 1 = .ok (.iload_n 1, 1) := by decide +kernel
theorem dX3_stateOf_2 : decode cX3_stateOf 2 = .ok (.invokevirtual 116, 3) := by decide +kernel
theorem dX3_stateOf_5 : decode cX3_stateOf 5 = .ok (.ifCond .eq 5, 3) := by decide +kernel
theorem dX3_stateOf_8 : decode cX3_stateOf 8 = .ok (.iconst 0, 1) := by decide +kernel
theorem dX3_stateOf_9 : decode cX3_stateOf 9 = .ok (.ireturn, 1) := by decide +kernel
theorem dX3_stateOf_10 : decode cX3_stateOf 10 = .ok (.aload_n 0, 1) := by decide +kernel
theorem dX3_stateOf_11 : decode cX3_stateOf 11 = .ok (.iload_n 1, 1) := by decide +kernel
theorem dX3_stateOf_12 : decode cX3_stateOf 12 = .ok (.invokevirtual 144, 3) := by decide +kernel
theorem dX3_stateOf_15 : decode cX3_stateOf 15 = .ok (.ifCond .eq 7, 3) := by decide +kernel
theorem dX3_stateOf_18 : decode cX3_stateOf 18 = .ok (.iconst 2, 1) := by decide +kernel
theorem dX3_stateOf_19 : decode cX3_stateOf 19 = .ok (.goto 4, 3) := by decide +kernel
theorem dX3_stateOf_22 : decode cX3_stateOf 22 = .ok (.iconst 1, 1) := by decide +kernel
theorem dX3_stateOf_23 : decode cX3_stateOf 23 = .ok (.ireturn, 1) := by decide +kernel
set_option maxRecDepth 20000 in
theorem ggX3_isLate_X3_isWaiting : GoodIn wsX3_isLate wsX3_isWaiting := goodIn_r _ [7, 1, 8, 9, 10, 11, 12, 13, 14, 15, 16, 17, 18, 19] (by decide +kernel) (by decide +kernel)
set_option maxRecDepth 20000 in
theorem gX3_isLate_X3_isWaiting : GoodIn wsX3_isLate (wsV RX3 116 RX3 yX3_isWaiting wsX3_isWaiting) := goodIn_app (goodIn_of _ (by decide +kernel)) ggX3_isLate_X3_isWaiting
theorem dX3_isLate_0 : decode cX3_isLate 0 = .ok (.aload_n 0, 1) := by decide +kernel
theorem dX3_isLate_1 : decode cX3_isLate 1 = .ok (.getfield 29, 3) := by decide +kernel
theorem dX3_isLate_4 : decode cX3_isLate 4 = .ok (.iload_n 1, 1) := by decide +kernel
theorem dX3_isLate_5 : decode cX3_isLate 5 = .ok (.aaload, 1) := by decide +kernel
theorem dX3_isLate_6 : decode cX3_isLate 6 = .ok (.astore_n 2, 1) := by decide +kernel
theorem dX3_isLate_7 : decode cX3_isLate 7 = .ok (.aload_n 0, 1) := by decide +kernel
theorem dX3_isLate_8 : decode cX3_isLate 8 = .ok (.iload_n 1, 1) := by decide +kernel
theorem dX3_isLate_9 : decode cX3_isLate 9 = .ok (.invokevirtual 116, 3) := by decide +kernel
theorem dX3_isLate_12 : decode cX3_isLate 12 = .ok (.ifCond .eq 10, 3) := by decide +kernel
theorem dX3_isLate_15 : decode cX3_isLate 15 = .ok (.aload_n 0, 1) := by decide +kernel
theorem dX3_isLate_16 : decode cX3_isLate 16 = .ok (.getfield 46, 3) := by decide +kernel
theorem dX3_isLate_19 : decode cX3_isLate 19 = .ok (.goto 7, 3) := by decide +kernel
theorem dX3_isLate_22 : decode cX3_isLate 22 = .ok (.aload_n 2, 1) := by decide +kernel
theorem dX3_isLate_23 : decode cX3_isLate 23 = .ok (.bipush 10, 2) := by decide +kernel
theorem dX3_isLate_25 : decode cX3_isLate 25 = .ok (.iaload, 1) := by decide +kernel
theorem dX3_isLate_26 : decode cX3_isLate 26 = .ok (.istore_n 3, 1) := by decide +kernel
theorem dX3_isLate_27 : decode cX3_isLate 27 = .ok (.iload_n 3, 1) := by decide +kernel
theorem dX3_isLate_28 : decode cX3_isLate 28 = .ok (.aload_n 2, 1) := by decide +kernel
theorem dX3_isLate_29 : decode cX3_isLate 29 = .ok (.bipush 6, 2) := by decide +kernel
theorem dX3_isLate_31 : decode cX3_isLate 31 = .ok (.iaload, 1) := by decide +kernel
theorem dX3_isLate_32 : decode cX3_isLate 32 = .ok (.if_icmp .le 7, 3) := by decide +kernel
theorem dX3_isLate_35 : decode cX3_isLate 35 = .ok (.iconst 1, 1) := by decide +kernel
theorem dX3_isLate_36 : decode cX3_isLate 36 = .ok (.goto 4, 3) := by decide +kernel
theorem dX3_isLate_39 : decode cX3_isLate 39 = .ok (.iconst 0, 1) := by decide +kernel
theorem dX3_isLate_40 : decode cX3_isLate 40 = .ok (.ireturn, 1) := by decide +kernel
set_option maxRecDepth 20000 in
theorem ggX3_countWaiting_X3_isWaiting : GoodIn wsX3_countWaiting wsX3_isWaiting := goodIn_r _ [6, 7, 8, 9, 10, 11, 12, 13, 14, 15, 16, 17, 18, 19] (by decide +kernel) (by decide +kernel)
set_option maxRecDepth 20000 in
theorem gX3_countWaiting_X3_isWaiting : GoodIn wsX3_countWaiting (wsV RX3 116 RX3 yX3_isWaiting wsX3_isWaiting) := goodIn_app (goodIn_of _ (by decide +kernel)) ggX3_countWaiting_X3_isWaiting
theorem dX3_countWaiting_0 : decode cX3_countWaiting 0 = .ok (.iconst 0, 1) := by decide +kernel
theorem dX3_countWaiting_1 : decode cX3_countWaiting 1 = .ok (.istore_n 1, 1) := by decide +kernel
theorem dX3_countWaiting_2 : decode cX3_countWaiting 2 = .ok (.iconst 0, 1) := by decide +kernel
theorem dX3_countWaiting_3 : decode cX3_countWaiting 3 = .ok (.istore_n 2, 1) := by decide +kernel
theorem dX3_countWaiting_4 : decode cX3_countWaiting 4 = .ok (.iload_n 2, 1) := by decide +kernel
theorem dX3_countWaiting_5 : decode cX3_countWaiting 5 = .ok (.aload_n 0, 1) := by decide +kernel
theorem dX3_countWaiting_6 : decode cX3_countWaiting 6 = .ok (.getfield 43, 3) := by decide +kernel
theorem dX3_countWaiting_9 : decode cX3_countWaiting 9 = .ok (.if_icmp .ge 20, 3) := by decide +kernel
theorem dX3_countWaiting_12 : decode cX3_countWaiting 12 = .ok (.aload_n 0, 1) := by decide +kernel
theorem dX3_countWaiting_13 : decode cX3_countWaiting 13 = .ok (.iload_n 2, 1) := by decide +kernel
theorem dX3_countWaiting_14 : decode cX3_countWaiting 14 = .ok (.invokevirtual 116, 3) := by decide +kernel
theorem dX3_countWaiting_17 : decode cX3_countWaiting 17 = .ok (.ifCond .eq 6, 3) := by decide +kernel
theorem dX3_countWaiting_20 : decode cX3_countWaiting 20 = .ok (.iinc 1 1, 3) := by decide +kernel
theorem dX3_countWaiting_23 : decode cX3_countWaiting 23 = .ok (.iinc 2 1, 3) := by decide +kernel
theorem dX3_countWaiting_26 : decode cX3_countWaiting 26 = .ok (.goto (-22), 3) := by decide +kernel
theorem dX3_countWaiting_29 : decode cX3_countWaiting 29 = .ok (.iload_n 1, 1) := by decide +kernel
theorem dX3_countWaiting_30 : decode cX3_countWaiting 30 = .ok (.ireturn, 1) := by decide +kernel
theorem dX3_startOf_0 : decode cX3_startOf 0 = .ok (.iload_n 0, 1) := by decide +kernel
theorem dX3_startOf_1 : decode cX3_startOf 1 = .ok (.iload_n 1, 1) := by decide +kernel
theorem dX3_startOf_2 : decode cX3_startOf 2 = .ok (.invokestatic 182, 3) := by decide +kernel
theorem dX3_startOf_5 : decode cX3_startOf 5 = .ok (.iload_n 2, 1) := by decide +kernel
theorem dX3_startOf_6 : decode cX3_startOf 6 = .ok (.iload_n 3, 1) := by decide +kernel
theorem dX3_startOf_7 : decode cX3_startOf 7 = .ok (.isub, 1) := by decide +kernel
theorem dX3_startOf_8 : decode cX3_startOf 8 = .ok (.invokestatic 182, 3) := by decide +kernel
theorem dX3_startOf_11 : decode cX3_startOf 11 = .ok (.ireturn, 1) := by decide +kernel
set_option maxRecDepth 20000 in
theorem ggX3_send_X3_startOf : GoodIn wsX3_send wsX3_startOf := goodIn_r _ [13, 14, 15, 16, 17] (by decide +kernel) (by decide +kernel)
set_option maxRecDepth 20000 in
theorem gX3_send_X3_startOf : GoodIn wsX3_send (va_wsS RX3 190 yX3_startOf wsX3_startOf) := goodIn_app (goodIn_of _ (by decide +kernel)) ggX3_send_X3_startOf
set_option maxRecDepth 20000 in
theorem ggX3_send_X3_holderOf : GoodIn wsX3_send wsX3_holderOf := goodIn_r _ [21, 2, 3, 6, 4, 7, 22, 23, 24, 25, 26, 27, 28, 29, 30, 31, 32, 33, 34, 35, 36, 37, 38] (by decide +kernel) (by decide +kernel)
set_option maxRecDepth 20000 in
theorem gX3_send_X3_holderOf : GoodIn wsX3_send (wsV RX3 194 RX3 yX3_holderOf wsX3_holderOf) := goodIn_app (goodIn_of _ (by decide +kernel)) ggX3_send_X3_holderOf
theorem dX3_send_0 : decode cX3_send 0 = .ok (.aload_n 0, 1) := by decide +kernel
theorem dX3_send_1 : decode cX3_send 1 = .ok (.getfield 29, 3) := by decide +kernel
theorem dX3_send_4 : decode cX3_send 4 = .ok (.iload_n 1, 1) := by decide +kernel
theorem dX3_send_5 : decode cX3_send 5 = .ok (.aaload, 1) := by decide +kernel
theorem dX3_send_6 : decode cX3_send 6 = .ok (.astore_n 2, 1) := by decide +kernel
theorem dX3_send_7 : decode cX3_send 7 = .ok (.aload_n 2, 1) := by decide +kernel
theorem dX3_send_8 : decode cX3_send 8 = .ok (.iconst 0, 1) := by decide +kernel
theorem dX3_send_9 : decode cX3_send 9 = .ok (.iaload, 1) := by decide +kernel
theorem dX3_send_10 : decode cX3_send 10 = .ok (.istore_n 3, 1) := by decide +kernel
theorem dX3_send_11 : decode cX3_send 11 = .ok (.aload_n 0, 1) := by decide +kernel
theorem dX3_send_12 : decode cX3_send 12 = .ok (.getfield 46, 3) := by decide +kernel
theorem dX3_send_15 : decode cX3_send 15 = .ok (.aload_n 0, 1) := by decide +kernel
theorem dX3_send_16 : decode cX3_send 16 = .ok (.getfield 49, 3) := by decide +kernel
theorem dX3_send_19 : decode cX3_send 19 = .ok (.aload_n 0, 1) := by decide +kernel
theorem dX3_send_20 : decode cX3_send 20 = .ok (.getfield 23, 3) := by decide +kernel
theorem dX3_send_23 : decode cX3_send 23 = .ok (.getfield 187, 3) := by decide +kernel
theorem dX3_send_26 : decode cX3_send 26 = .ok (.iload_n 3, 1) := by decide +kernel
theorem dX3_send_27 : decode cX3_send 27 = .ok (.iaload, 1) := by decide +kernel
theorem dX3_send_28 : decode cX3_send 28 = .ok (.aload_n 2, 1) := by decide +kernel
theorem dX3_send_29 : decode cX3_send 29 = .ok (.iconst 4, 1) := by decide +kernel
theorem dX3_send_30 : decode cX3_send 30 = .ok (.iaload, 1) := by decide +kernel
theorem dX3_send_31 : decode cX3_send 31 = .ok (.invokestatic 190, 3) := by decide +kernel
theorem dX3_send_34 : decode cX3_send 34 = .ok (.istore 4, 2) := by decide +kernel
theorem dX3_send_36 : decode cX3_send 36 = .ok (.aload_n 2, 1) := by decide +kernel
theorem dX3_send_37 : decode cX3_send 37 = .ok (.bipush 9, 2) := by decide +kernel
theorem dX3_send_39 : decode cX3_send 39 = .ok (.iload 4, 2) := by decide +kernel
theorem dX3_send_41 : decode cX3_send 41 = .ok (.iastore, 1) := by decide +kernel
theorem dX3_send_42 : decode cX3_send 42 = .ok (.aload_n 2, 1) := by decide +kernel
theorem dX3_send_43 : decode cX3_send 43 = .ok (.bipush 11, 2) := by decide +kernel
theorem dX3_send_45 : decode cX3_send 45 = .ok (.aload_n 0, 1) := by decide +kernel
theorem dX3_send_46 : decode cX3_send 46 = .ok (.iload 4, 2) := by decide +kernel
theorem dX3_send_48 : decode cX3_send 48 = .ok (.iload_n 3, 1) := by decide +kernel
theorem dX3_send_49 : decode cX3_send 49 = .ok (.invokevirtual 194, 3) := by decide +kernel
theorem dX3_send_52 : decode cX3_send 52 = .ok (.iastore, 1) := by decide +kernel
theorem dX3_send_53 : decode cX3_send 53 = .ok (.aload_n 2, 1) := by decide +kernel
theorem dX3_send_54 : decode cX3_send 54 = .ok (.bipush 10, 2) := by decide +kernel
theorem dX3_send_56 : decode cX3_send 56 = .ok (.iload 4, 2) := by decide +kernel
theorem dX3_send_58 : decode cX3_send 58 = .ok (.aload_n 2, 1) := by decide +kernel
theorem dX3_send_59 : decode cX3_send 59 = .ok (.iconst 4, 1) := by decide +kernel
theorem dX3_send_60 : decode cX3_send 60 = .ok (.iaload, 1) := by decide +kernel
theorem dX3_send_61 : decode cX3_send 61 = .ok (.iadd, 1) := by decide +kernel
theorem dX3_send_62 : decode cX3_send 62 = .ok (.aload_n 2, 1) := by decide +kernel
theorem dX3_send_63 : decode cX3_send 63 = .ok (.iconst 5, 1) := by decide +kernel
theorem dX3_send_64 : decode cX3_send 64 = .ok (.iaload, 1) := by decide +kernel
theorem dX3_send_65 : decode cX3_send 65 = .ok (.iadd, 1) := by decide +kernel
theorem dX3_send_66 : decode cX3_send 66 = .ok (.iastore, 1) := by decide +kernel
theorem dX3_send_67 : decode cX3_send 67 = .ok (.aload_n 0, 1) := by decide +kernel
theorem dX3_send_68 : decode cX3_send 68 = .ok (.iload 4, 2) := by decide +kernel
theorem dX3_send_70 : decode cX3_send 70 = .ok (.aload_n 2, 1) := by decide +kernel
theorem dX3_send_71 : decode cX3_send 71 = .ok (.iconst 4, 1) := by decide +kernel
theorem dX3_send_72 : decode cX3_send 72 = .ok (.iaload, 1) := by decide +kernel
theorem dX3_send_73 : decode cX3_send 73 = .ok (.iadd, 1) := by decide +kernel
theorem dX3_send_74 : decode cX3_send 74 = .ok (.putfield 49, 3) := by decide +kernel
theorem dX3_send_77 : decode cX3_send 77 = .ok (.aload_n 0, 1) := by decide +kernel
theorem dX3_send_78 : decode cX3_send 78 = .ok (.iload_n 1, 1) := by decide +kernel
theorem dX3_send_79 : decode cX3_send 79 = .ok (.putfield 52, 3) := by decide +kernel
theorem dX3_send_82 : decode cX3_send 82 = .ok (.aload_n 0, 1) := by decide +kernel
theorem dX3_send_83 : decode cX3_send 83 = .ok (.getfield 23, 3) := by decide +kernel
theorem dX3_send_86 : decode cX3_send 86 = .ok (.getfield 187, 3) := by decide +kernel
theorem dX3_send_89 : decode cX3_send 89 = .ok (.iload_n 3, 1) := by decide +kernel
theorem dX3_send_90 : decode cX3_send 90 = .ok (.aload_n 2, 1) := by decide +kernel
theorem dX3_send_91 : decode cX3_send 91 = .ok (.bipush 10, 2) := by decide +kernel
theorem dX3_send_93 : decode cX3_send 93 = .ok (.iaload, 1) := by decide +kernel
theorem dX3_send_94 : decode cX3_send 94 = .ok (.iastore, 1) := by decide +kernel
theorem dX3_send_95 : decode cX3_send 95 = .ok (.aload_n 0, 1) := by decide +kernel
theorem dX3_send_96 : decode cX3_send 96 = .ok (.getfield 23, 3) := by decide +kernel
theorem dX3_send_99 : decode cX3_send 99 = .ok (.getfield 197, 3) := by decide +kernel
theorem dX3_send_102 : decode cX3_send 102 = .ok (.iload_n 3, 1) := by decide +kernel
theorem dX3_send_103 : decode cX3_send 103 = .ok (.iload_n 1, 1) := by decide +kernel
theorem dX3_send_104 : decode cX3_send 104 = .ok (.iastore, 1) := by decide +kernel
theorem dX3_send_105 : decode cX3_send 105 = .ok (.aload_n 0, 1) := by decide +kernel
theorem dX3_send_106 : decode cX3_send 106 = .ok (.getfield 23, 3) := by decide +kernel
theorem dX3_send_109 : decode cX3_send 109 = .ok (.getfield 147, 3) := by decide +kernel
theorem dX3_send_112 : decode cX3_send 112 = .ok (.iload_n 3, 1) := by decide +kernel
theorem dX3_send_113 : decode cX3_send 113 = .ok (.aaload, 1) := by decide +kernel
theorem dX3_send_114 : decode cX3_send 114 = .ok (.iconst 0, 1) := by decide +kernel
theorem dX3_send_115 : decode cX3_send 115 = .ok (.dup2, 1) := by decide +kernel
theorem dX3_send_116 : decode cX3_send 116 = .ok (.iaload, 1) := by decide +kernel
theorem dX3_send_117 : decode cX3_send 117 = .ok (.iconst 1, 1) := by decide +kernel
theorem dX3_send_118 : decode cX3_send 118 = .ok (.iadd, 1) := by decide +kernel
theorem dX3_send_119 : decode cX3_send 119 = .ok (.iastore, 1) := by decide +kernel
theorem dX3_send_120 : decode cX3_send 120 = .ok (.aload_n 0, 1) := by decide +kernel
theorem dX3_send_121 : decode cX3_send 121 = .ok (.iconst 0, 1) := by decide +kernel
theorem dX3_send_122 : decode cX3_send 122 = .ok (.putfield 58, 3) := by decide +kernel
theorem dX3_send_125 : decode cX3_send 125 = .ok (.iload 4, 2) := by decide +kernel
theorem dX3_send_127 : decode cX3_send 127 = .ok (.ireturn, 1) := by decide +kernel
theorem dX3_holderOf_0 : decode cX3_holderOf 0 = .ok (.iload_n 1, 1) := by decide +kernel
theorem dX3_holderOf_1 : decode cX3_holderOf 1 = .ok (.aload_n 0, 1) := by decide +kernel
theorem dX3_holderOf_2 : decode cX3_holderOf 2 = .ok (.getfield 46, 3) := by decide +kernel
theorem dX3_holderOf_5 : decode cX3_holderOf 5 = .ok (.if_icmp .gt 5, 3) := by decide +kernel
theorem dX3_holderOf_8 : decode cX3_holderOf 8 = .ok (.iconst (-1), 1) := by decide +kernel
theorem dX3_holderOf_9 : decode cX3_holderOf 9 = .ok (.ireturn, 1) := by decide +kernel
theorem dX3_holderOf_10 : decode cX3_holderOf 10 = .ok (.aload_n 0, 1) := by decide +kernel
theorem dX3_holderOf_11 : decode cX3_holderOf 11 = .ok (.getfield 49, 3) := by decide +kernel
theorem dX3_holderOf_14 : decode cX3_holderOf 14 = .ok (.iload_n 1, 1) := by decide +kernel
theorem dX3_holderOf_15 : decode cX3_holderOf 15 = .ok (.if_icmp .lt 10, 3) := by decide +kernel
theorem dX3_holderOf_18 : decode cX3_holderOf 18 = .ok (.aload_n 0, 1) := by decide +kernel
theorem dX3_holderOf_19 : decode cX3_holderOf 19 = .ok (.getfield 52, 3) := by decide +kernel
theorem dX3_holderOf_22 : decode cX3_holderOf 22 = .ok (.goto 12, 3) := by decide +kernel
theorem dX3_holderOf_25 : decode cX3_holderOf 25 = .ok (.aload_n 0, 1) := by decide +kernel
theorem dX3_holderOf_26 : decode cX3_holderOf 26 = .ok (.getfield 23, 3) := by decide +kernel
theorem dX3_holderOf_29 : decode cX3_holderOf 29 = .ok (.getfield 197, 3) := by decide +kernel
theorem dX3_holderOf_32 : decode cX3_holderOf 32 = .ok (.iload_n 2, 1) := by decide +kernel
theorem dX3_holderOf_33 : decode cX3_holderOf 33 = .ok (.iaload, 1) := by decide +kernel
theorem dX3_holderOf_34 : decode cX3_holderOf 34 = .ok (.ireturn, 1) := by decide +kernel
set_option maxRecDepth 20000 in
theorem ggX3_findBest_X1_clear : GoodIn wsX3_findBest wsX1_clear := goodIn_r _ [14, 15, 16, 17, 76, 77, 78, 79, 80, 81, 82, 83, 84, 85, 86, 87] (by decide +kernel) (by decide +kernel)
set_option maxRecDepth 20000 in
theorem gX3_findBest_X1_clear : GoodIn wsX3_findBest (wsV RX3 200 RX1 yX1_clear wsX1_clear) := goodIn_app (goodIn_of _ (by decide +kernel)) ggX3_findBest_X1_clear
set_option maxRecDepth 20000 in
theorem ggX3_findBest_X3_isWaiting : GoodIn wsX3_findBest wsX3_isWaiting := goodIn_r _ [22, 8, 59, 60, 61, 62, 63, 64, 65, 66, 67, 68, 69, 70] (by decide +kernel) (by decide +kernel)
set_option maxRecDepth 20000 in
theorem gX3_findBest_X3_isWaiting : GoodIn wsX3_findBest (wsV RX3 116 RX3 yX3_isWaiting wsX3_isWaiting) := goodIn_app (goodIn_of _ (by decide +kernel)) ggX3_findBest_X3_isWaiting
set_option maxRecDepth 20000 in
theorem ggX3_findBest_X1_add : GoodIn wsX3_findBest wsX1_add := goodIn_r _ [26, 27, 16, 28, 29, 30, 31, 32, 76, 77, 78, 79, 80, 81, 82, 83, 84, 85, 86, 87] (by decide +kernel) (by decide +kernel)
set_option maxRecDepth 20000 in
theorem gX3_findBest_X1_add : GoodIn wsX3_findBest (wsV RX3 204 RX1 yX1_add wsX1_add) := goodIn_app (goodIn_of _ (by decide +kernel)) ggX3_findBest_X1_add
set_option maxRecDepth 20000 in
theorem ggX3_findBest_X1_search : GoodIn wsX3_findBest wsX1_search := goodIn_r _ [36, 37, 38, 39, 40, 41, 13, 42, 16, 32, 43, 44, 45, 46, 47, 48, 49, 50, 51, 52, 28, 17, 15, 29, 30, 31, 53, 21, 54, 55, 56, 57, 58, 76, 77, 78, 79, 80, 81, 82, 83, 84, 85, 86, 87] (by decide +kernel) (by decide +kernel)
set_option maxRecDepth 20000 in
theorem gX3_findBest_X1_search : GoodIn wsX3_findBest (wsV RX3 206 RX1 yX1_search wsX1_search) := goodIn_app (goodIn_of _ (by decide +kernel)) ggX3_findBest_X1_search
theorem dX3_findBest_0 : decode cX3_findBest 0 = .ok (.aload_n 0, 1) := by decide +kernel
theorem dX3_findBest_1 : decode cX3_findBest 1 = .ok (.getfield 58, 3) := by decide +kernel
theorem dX3_findBest_4 : decode cX3_findBest 4 = .ok (.ifCond .eq 4, 3) := by decide +kernel
theorem dX3_findBest_7 : decode cX3_findBest 7 = .ok (.return_, 1) := by decide +kernel
theorem dX3_findBest_8 : decode cX3_findBest 8 = .ok (.aload_n 0, 1) := by decide +kernel
theorem dX3_findBest_9 : decode cX3_findBest 9 = .ok (.getfield 35, 3) := by decide +kernel
theorem dX3_findBest_12 : decode cX3_findBest 12 = .ok (.aload_n 0, 1) := by decide +kernel
theorem dX3_findBest_13 : decode cX3_findBest 13 = .ok (.getfield 46, 3) := by decide +kernel
theorem dX3_findBest_16 : decode cX3_findBest 16 = .ok (.aload_n 0, 1) := by decide +kernel
theorem dX3_findBest_17 : decode cX3_findBest 17 = .ok (.getfield 23, 3) := by decide +kernel
theorem dX3_findBest_20 : decode cX3_findBest 20 = .ok (.getfield 187, 3) := by decide +kernel
theorem dX3_findBest_23 : decode cX3_findBest 23 = .ok (.invokevirtual 200, 3) := by decide +kernel
theorem dX3_findBest_26 : decode cX3_findBest 26 = .ok (.iconst 0, 1) := by decide +kernel
theorem dX3_findBest_27 : decode cX3_findBest 27 = .ok (.istore_n 1, 1) := by decide +kernel
theorem dX3_findBest_28 : decode cX3_findBest 28 = .ok (.iload_n 1, 1) := by decide +kernel
theorem dX3_findBest_29 : decode cX3_findBest 29 = .ok (.aload_n 0, 1) := by decide +kernel
theorem dX3_findBest_30 : decode cX3_findBest 30 = .ok (.getfield 43, 3) := by decide +kernel
theorem dX3_findBest_33 : decode cX3_findBest 33 = .ok (.if_icmp .ge 43, 3) := by decide +kernel
theorem dX3_findBest_36 : decode cX3_findBest 36 = .ok (.aload_n 0, 1) := by decide +kernel
theorem dX3_findBest_37 : decode cX3_findBest 37 = .ok (.getfield 35, 3) := by decide +kernel
theorem dX3_findBest_40 : decode cX3_findBest 40 = .ok (.getfield 138, 3) := by decide +kernel
theorem dX3_findBest_43 : decode cX3_findBest 43 = .ok (.bipush 7, 2) := by decide +kernel
theorem dX3_findBest_45 : decode cX3_findBest 45 = .ok (.if_icmp .ge 31, 3) := by decide +kernel
theorem dX3_findBest_48 : decode cX3_findBest 48 = .ok (.aload_n 0, 1) := by decide +kernel
theorem dX3_findBest_49 : decode cX3_findBest 49 = .ok (.iload_n 1, 1) := by decide +kernel
theorem dX3_findBest_50 : decode cX3_findBest 50 = .ok (.invokevirtual 116, 3) := by decide +kernel
theorem dX3_findBest_53 : decode cX3_findBest 53 = .ok (.ifCond .eq 17, 3) := by decide +kernel
theorem dX3_findBest_56 : decode cX3_findBest 56 = .ok (.aload_n 0, 1) := by decide +kernel
theorem dX3_findBest_57 : decode cX3_findBest 57 = .ok (.getfield 35, 3) := by decide +kernel
theorem dX3_findBest_60 : decode cX3_findBest 60 = .ok (.iload_n 1, 1) := by decide +kernel
theorem dX3_findBest_61 : decode cX3_findBest 61 = .ok (.aload_n 0, 1) := by decide +kernel
theorem dX3_findBest_62 : decode cX3_findBest 62 = .ok (.getfield 29, 3) := by decide +kernel
theorem dX3_findBest_65 : decode cX3_findBest 65 = .ok (.iload_n 1, 1) := by decide +kernel
theorem dX3_findBest_66 : decode cX3_findBest 66 = .ok (.aaload, 1) := by decide +kernel
theorem dX3_findBest_67 : decode cX3_findBest 67 = .ok (.invokevirtual 204, 3) := by decide +kernel
theorem dX3_findBest_70 : decode cX3_findBest 70 = .ok (.iinc 1 1, 3) := by decide +kernel
theorem dX3_findBest_73 : decode cX3_findBest 73 = .ok (.goto (-45), 3) := by decide +kernel
theorem dX3_findBest_76 : decode cX3_findBest 76 = .ok (.aload_n 0, 1) := by decide +kernel
theorem dX3_findBest_77 : decode cX3_findBest 77 = .ok (.getfield 35, 3) := by decide +kernel
theorem dX3_findBest_80 : decode cX3_findBest 80 = .ok (.aload_n 0, 1) := by decide +kernel
theorem dX3_findBest_81 : decode cX3_findBest 81 = .ok (.getfield 49, 3) := by decide +kernel
theorem dX3_findBest_84 : decode cX3_findBest 84 = .ok (.invokevirtual 206, 3) := by decide +kernel
theorem dX3_findBest_87 : decode cX3_findBest 87 = .ok (.aload_n 0, 1) := by decide +kernel
theorem dX3_findBest_88 : decode cX3_findBest 88 = .ok (.iconst 1, 1) := by decide +kernel
theorem dX3_findBest_89 : decode cX3_findBest 89 = .ok (.putfield 58, 3) := by decide +kernel
theorem dX3_findBest_92 : decode cX3_findBest 92 = .ok (.return_, 1) := by decide +kernel
