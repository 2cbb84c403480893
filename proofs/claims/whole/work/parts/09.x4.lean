theorem dX4_init_0 : decode cX4_init 0 = .ok (.aload_n 0, 1) := by decide +kernel
theorem dX4_init_1 : decode cX4_init 1 = .ok (.invokespecial 1, 3) := by decide +kernel
theorem dX4_init_4 : decode cX4_init 4 = .ok (.aload_n 0, 1) := by decide +kernel
theorem dX4_init_5 : decode cX4_init 5 = .ok (.bipush 12, 2) := by decide +kernel
theorem dX4_init_7 : decode cX4_init 7 = .ok (.newarray .int, 2) := by decide +kernel
theorem dX4_init_9 : decode cX4_init 9 = .ok (.putfield 9, 3) := by decide +kernel
theorem dX4_init_12 : decode cX4_init 12 = .ok (.aload_n 0, 1) := by decide +kernel
theorem dX4_init_13 : decode cX4_init 13 = .ok (.bipush 120, 2) := by decide +kernel
theorem dX4_init_15 : decode cX4_init 15 = .ok (.newarray .int, 2) := by decide +kernel
theorem dX4_init_17 : decode cX4_init 17 = .ok (.putfield 13, 3) := by decide +kernel
theorem dX4_init_20 : decode cX4_init 20 = .ok (.aload_n 0, 1) := by decide +kernel
theorem dX4_init_21 : decode cX4_init 21 = .ok (.bipush 100, 2) := by decide +kernel
theorem dX4_init_23 : decode cX4_init 23 = .ok (.newarray .byte, 2) := by decide +kernel
theorem dX4_init_25 : decode cX4_init 25 = .ok (.putfield 16, 3) := by decide +kernel
theorem dX4_init_28 : decode cX4_init 28 = .ok (.aload_n 0, 1) := by decide +kernel
theorem dX4_init_29 : decode cX4_init 29 = .ok (.iconst (-1), 1) := by decide +kernel
theorem dX4_init_30 : decode cX4_init 30 = .ok (.putfield 20, 3) := by decide +kernel
theorem dX4_init_33 : decode cX4_init 33 = .ok (.aload_n 0, 1) := by decide +kernel
theorem dX4_init_34 : decode cX4_init 34 = .ok (.iconst 4, 1) := by decide +kernel
theorem dX4_init_35 : decode cX4_init 35 = .ok (.newarray .int, 2) := by decide +kernel
theorem dX4_init_37 : decode cX4_init 37 = .ok (.putfield 24, 3) := by decide +kernel
theorem dX4_init_40 : decode cX4_init 40 = .ok (.aload_n 0, 1) := by decide +kernel
theorem dX4_init_41 : decode cX4_init 41 = .ok (.iconst 4, 1) := by decide +kernel
theorem dX4_init_42 : decode cX4_init 42 = .ok (.newarray .boolean, 2) := by decide +kernel
theorem dX4_init_44 : decode cX4_init 44 = .ok (.putfield 27, 3) := by decide +kernel
theorem dX4_init_47 : decode cX4_init 47 = .ok (.aload_n 0, 1) := by decide +kernel
theorem dX4_init_48 : decode cX4_init 48 = .ok (.iconst (-1), 1) := by decide +kernel
theorem dX4_init_49 : decode cX4_init 49 = .ok (.putfield 31, 3) := by decide +kernel
theorem dX4_init_52 : decode cX4_init 52 = .ok (.aload_n 0, 1) := by decide +kernel
theorem dX4_init_53 : decode cX4_init 53 = .ok (.bipush 10, 2) := by decide +kernel
theorem dX4_init_55 : decode cX4_init 55 = .ok (.newarray .int, 2) := by decide +kernel
theorem dX4_init_57 : decode cX4_init 57 = .ok (.putfield 34, 3) := by decide +kernel
theorem dX4_init_60 : decode cX4_init 60 = .ok (.aload_n 0, 1) := by decide +kernel
theorem dX4_init_61 : decode cX4_init 61 = .ok (.bipush 10, 2) := by decide +kernel
theorem dX4_init_63 : decode cX4_init 63 = .ok (.newarray .int, 2) := by decide +kernel
theorem dX4_init_65 : decode cX4_init 65 = .ok (.putfield 37, 3) := by decide +kernel
theorem dX4_init_68 : decode cX4_init 68 = .ok (.aload_n 0, 1) := by decide +kernel
theorem dX4_init_69 : decode cX4_init 69 = .ok (.sipush 720, 3) := by decide +kernel
theorem dX4_init_72 : decode cX4_init 72 = .ok (.newarray .int, 2) := by decide +kernel
theorem dX4_init_74 : decode cX4_init 74 = .ok (.putfield 40, 3) := by decide +kernel
theorem dX4_init_77 : decode cX4_init 77 = .ok (.aload_n 0, 1) := by decide +kernel
theorem dX4_init_78 : decode cX4_init 78 = .ok (.bipush 60, 2) := by decide +kernel
theorem dX4_init_80 : decode cX4_init 80 = .ok (.newarray .int, 2) := by decide +kernel
theorem dX4_init_82 : decode cX4_init 82 = .ok (.putfield 43, 3) := by decide +kernel
theorem dX4_init_85 : decode cX4_init 85 = .ok (.aload_n 0, 1) := by decide +kernel
theorem dX4_init_86 : decode cX4_init 86 = .ok (.bipush 60, 2) := by decide +kernel
theorem dX4_init_88 : decode cX4_init 88 = .ok (.newarray .boolean, 2) := by decide +kernel
theorem dX4_init_90 : decode cX4_init 90 = .ok (.putfield 46, 3) := by decide +kernel
theorem dX4_init_93 : decode cX4_init 93 = .ok (.aload_n 0, 1) := by decide +kernel
theorem dX4_init_94 : decode cX4_init 94 = .ok (.bipush 7, 2) := by decide +kernel
theorem dX4_init_96 : decode cX4_init 96 = .ok (.newarray .int, 2) := by decide +kernel
theorem dX4_init_98 : decode cX4_init 98 = .ok (.putfield 49, 3) := by decide +kernel
theorem dX4_init_101 : decode cX4_init 101 = .ok (.aload_n 0, 1) := by decide +kernel
theorem dX4_init_102 : decode cX4_init 102 = .ok (.bipush 7, 2) := by decide +kernel
theorem dX4_init_104 : decode cX4_init 104 = .ok (.newarray .int, 2) := by decide +kernel
theorem dX4_init_106 : decode cX4_init 106 = .ok (.putfield 52, 3) := by decide +kernel
theorem dX4_init_109 : decode cX4_init 109 = .ok (.aload_n 0, 1) := by decide +kernel
theorem dX4_init_110 : decode cX4_init 110 = .ok (.bipush 7, 2) := by decide +kernel
theorem dX4_init_112 : decode cX4_init 112 = .ok (.newarray .int, 2) := by decide +kernel
theorem dX4_init_114 : decode cX4_init 114 = .ok (.putfield 55, 3) := by decide +kernel
theorem dX4_init_117 : decode cX4_init 117 = .ok (.aload_n 0, 1) := by decide +kernel
theorem dX4_init_118 : decode cX4_init 118 = .ok (.bipush 10, 2) := by decide +kernel
theorem dX4_init_120 : decode cX4_init 120 = .ok (.newarray .int, 2) := by decide +kernel
theorem dX4_init_122 : decode cX4_init 122 = .ok (.putfield 58, 3) := by decide +kernel
theorem dX4_init_125 : decode cX4_init 125 = .ok (.return_, 1) := by decide +kernel
theorem dX4_thrown_0 : decode cX4_thrown 0 = .ok (.aload_n 0, 1) := by decide +kernel
theorem dX4_thrown_1 : decode cX4_thrown 1 = .ok (.getfield 61, 3) := by decide +kernel
theorem dX4_thrown_4 : decode cX4_thrown 4 = .ok (.ireturn, 1) := by decide +kernel
theorem dX4_bad_0 : decode cX4_bad 0 = .ok (.iload_n 1, 1) := by decide +kernel
theorem dX4_bad_1 : decode cX4_bad 1 = .ok (.ifCond .eq 8, 3) := by decide +kernel
theorem dX4_bad_4 : decode cX4_bad 4 = .ok (.aload_n 0, 1) := by decide +kernel
theorem dX4_bad_5 : decode cX4_bad 5 = .ok (.iload_n 2, 1) := by decide +kernel
theorem dX4_bad_6 : decode cX4_bad 6 = .ok (.putfield 61, 3) := by decide +kernel
theorem dX4_bad_9 : decode cX4_bad 9 = .ok (.iload_n 1, 1) := by decide +kernel
theorem dX4_bad_10 : decode cX4_bad 10 = .ok (.ireturn, 1) := by decide +kernel
set_option maxRecDepth 20000 in
theorem ggX4_push_X4_bad : GoodIn wsX4_push wsX4_bad := goodIn_r _ [8, 1, 9, 10, 11, 12, 13, 14, 15, 16, 17, 18, 19, 20, 21, 22, 23, 24, 25, 26, 27, 28, 29, 30, 31, 32, 33, 34, 35, 36] (by decide +kernel) (by decide +kernel)
set_option maxRecDepth 20000 in
theorem gX4_push_X4_bad : GoodIn wsX4_push (wsV RX4 64 RX4 yX4_bad wsX4_bad) := goodIn_app (goodIn_of _ (by decide +kernel)) ggX4_push_X4_bad
theorem dX4_push_0 : decode cX4_push 0 = .ok (.aload_n 0, 1) := by decide +kernel
theorem dX4_push_1 : decode cX4_push 1 = .ok (.iconst 0, 1) := by decide +kernel
theorem dX4_push_2 : decode cX4_push 2 = .ok (.putfield 61, 3) := by decide +kernel
theorem dX4_push_5 : decode cX4_push 5 = .ok (.aload_n 0, 1) := by decide +kernel
theorem dX4_push_6 : decode cX4_push 6 = .ok (.iload_n 1, 1) := by decide +kernel
theorem dX4_push_7 : decode cX4_push 7 = .ok (.bipush 50, 2) := by decide +kernel
theorem dX4_push_9 : decode cX4_push 9 = .ok (.if_icmp .lt 10, 3) := by decide +kernel
theorem dX4_push_12 : decode cX4_push 12 = .ok (.iload_n 1, 1) := by decide +kernel
theorem dX4_push_13 : decode cX4_push 13 = .ok (.sipush 200, 3) := by decide +kernel
theorem dX4_push_16 : decode cX4_push 16 = .ok (.if_icmp .le 7, 3) := by decide +kernel
theorem dX4_push_19 : decode cX4_push 19 = .ok (.iconst 1, 1) := by decide +kernel
theorem dX4_push_20 : decode cX4_push 20 = .ok (.goto 4, 3) := by decide +kernel
theorem dX4_push_23 : decode cX4_push 23 = .ok (.iconst 0, 1) := by decide +kernel
theorem dX4_push_24 : decode cX4_push 24 = .ok (.iconst 1, 1) := by decide +kernel
theorem dX4_push_25 : decode cX4_push 25 = .ok (.invokevirtual 64, 3) := by decide +kernel
theorem dX4_push_28 : decode cX4_push 28 = .ok (.ifCond .eq 5, 3) := by decide +kernel
theorem dX4_push_31 : decode cX4_push 31 = .ok (.iconst 0, 1) := by decide +kernel
theorem dX4_push_32 : decode cX4_push 32 = .ok (.ireturn, 1) := by decide +kernel
theorem dX4_push_33 : decode cX4_push 33 = .ok (.aload_n 0, 1) := by decide +kernel
theorem dX4_push_34 : decode cX4_push 34 = .ok (.getfield 68, 3) := by decide +kernel
theorem dX4_push_37 : decode cX4_push 37 = .ok (.bipush 12, 2) := by decide +kernel
theorem dX4_push_39 : decode cX4_push 39 = .ok (.if_icmp .ne 5, 3) := by decide +kernel
theorem dX4_push_42 : decode cX4_push 42 = .ok (.iconst (-1), 1) := by decide +kernel
theorem dX4_push_43 : decode cX4_push 43 = .ok (.ireturn, 1) := by decide +kernel
theorem dX4_push_44 : decode cX4_push 44 = .ok (.aload_n 0, 1) := by decide +kernel
theorem dX4_push_45 : decode cX4_push 45 = .ok (.getfield 9, 3) := by decide +kernel
theorem dX4_push_48 : decode cX4_push 48 = .ok (.aload_n 0, 1) := by decide +kernel
theorem dX4_push_49 : decode cX4_push 49 = .ok (.getfield 68, 3) := by decide +kernel
theorem dX4_push_52 : decode cX4_push 52 = .ok (.iload_n 1, 1) := by decide +kernel
theorem dX4_push_53 : decode cX4_push 53 = .ok (.iastore, 1) := by decide +kernel
theorem dX4_push_54 : decode cX4_push 54 = .ok (.aload_n 0, 1) := by decide +kernel
theorem dX4_push_55 : decode cX4_push 55 = .ok (.dup, 1) := by decide +kernel
theorem dX4_push_56 : decode cX4_push 56 = .ok (.getfield 68, 3) := by decide +kernel
theorem dX4_push_59 : decode cX4_push 59 = .ok (.iconst 1, 1) := by decide +kernel
theorem dX4_push_60 : decode cX4_push 60 = .ok (.iadd, 1) := by decide +kernel
theorem dX4_push_61 : decode cX4_push 61 = .ok (.putfield 68, 3) := by decide +kernel
theorem dX4_push_64 : decode cX4_push 64 = .ok (.aload_n 0, 1) := by decide +kernel
theorem dX4_push_65 : decode cX4_push 65 = .ok (.getfield 68, 3) := by decide +kernel
theorem dX4_push_68 : decode cX4_push 68 = .ok (.ireturn, 1) := by decide +kernel
set_option maxRecDepth 20000 in
theorem ggX4_block_X4_bad : GoodIn wsX4_block wsX4_bad := goodIn_r _ [10, 1, 11, 12, 13, 14, 15, 16, 17, 18, 19, 20, 21, 22, 23, 24, 25, 26, 27, 28, 29, 30, 31, 32, 33, 34, 35, 36, 37, 38] (by decide +kernel) (by decide +kernel)
set_option maxRecDepth 20000 in
theorem gX4_block_X4_bad : GoodIn wsX4_block (wsV RX4 64 RX4 yX4_bad wsX4_bad) := goodIn_app (goodIn_of _ (by decide +kernel)) ggX4_block_X4_bad
theorem dX4_block_0 : decode cX4_block 0 = .ok (.aload_n 0, 1) := by decide +kernel
theorem dX4_block_1 : decode cX4_block 1 = .ok (.iconst 0, 1) := by decide +kernel
theorem dX4_block_2 : decode cX4_block 2 = .ok (.putfield 61, 3) := by decide +kernel
theorem dX4_block_5 : decode cX4_block 5 = .ok (.aload_n 0, 1) := by decide +kernel
theorem dX4_block_6 : decode cX4_block 6 = .ok (.aload_n 0, 1) := by decide +kernel
theorem dX4_block_7 : decode cX4_block 7 = .ok (.getfield 71, 3) := by decide +kernel
theorem dX4_block_10 : decode cX4_block 10 = .ok (.bipush 10, 2) := by decide +kernel
theorem dX4_block_12 : decode cX4_block 12 = .ok (.if_icmp .ne 7, 3) := by decide +kernel
theorem dX4_block_15 : decode cX4_block 15 = .ok (.iconst 1, 1) := by decide +kernel
theorem dX4_block_16 : decode cX4_block 16 = .ok (.goto 4, 3) := by decide +kernel
theorem dX4_block_19 : decode cX4_block 19 = .ok (.iconst 0, 1) := by decide +kernel
theorem dX4_block_20 : decode cX4_block 20 = .ok (.iconst 1, 1) := by decide +kernel
theorem dX4_block_21 : decode cX4_block 21 = .ok (.invokevirtual 64, 3) := by decide +kernel
theorem dX4_block_24 : decode cX4_block 24 = .ok (.ifCond .eq 5, 3) := by decide +kernel
theorem dX4_block_27 : decode cX4_block 27 = .ok (.iconst 0, 1) := by decide +kernel
theorem dX4_block_28 : decode cX4_block 28 = .ok (.ireturn, 1) := by decide +kernel
theorem dX4_block_29 : decode cX4_block 29 = .ok (.aload_n 0, 1) := by decide +kernel
theorem dX4_block_30 : decode cX4_block 30 = .ok (.getfield 68, 3) := by decide +kernel
theorem dX4_block_33 : decode cX4_block 33 = .ok (.bipush 12, 2) := by decide +kernel
theorem dX4_block_35 : decode cX4_block 35 = .ok (.if_icmp .ge 5, 3) := by decide +kernel
theorem dX4_block_38 : decode cX4_block 38 = .ok (.iconst (-1), 1) := by decide +kernel
theorem dX4_block_39 : decode cX4_block 39 = .ok (.ireturn, 1) := by decide +kernel
theorem dX4_block_40 : decode cX4_block 40 = .ok (.iconst 0, 1) := by decide +kernel
theorem dX4_block_41 : decode cX4_block 41 = .ok (.istore_n 1, 1) := by decide +kernel
theorem dX4_block_42 : decode cX4_block 42 = .ok (.iload_n 1, 1) := by decide +kernel
theorem dX4_block_43 : decode cX4_block 43 = .ok (.bipush 12, 2) := by decide +kernel
theorem dX4_block_45 : decode cX4_block 45 = .ok (.if_icmp .ge 29, 3) := by decide +kernel
theorem dX4_block_48 : decode cX4_block 48 = .ok (.aload_n 0, 1) := by decide +kernel
theorem dX4_block_49 : decode cX4_block 49 = .ok (.getfield 13, 3) := by decide +kernel
theorem dX4_block_52 : decode cX4_block 52 = .ok (.bipush 12, 2) := by decide +kernel
theorem dX4_block_54 : decode cX4_block 54 = .ok (.aload_n 0, 1) := by decide +kernel
theorem dX4_block_55 : decode cX4_block 55 = .ok (.getfield 71, 3) := by decide +kernel
theorem dX4_block_58 : decode cX4_block 58 = .ok (.imul, 1) := by decide +kernel
theorem dX4_block_59 : decode cX4_block 59 = .ok (.iload_n 1, 1) := by decide +kernel
theorem dX4_block_60 : decode cX4_block 60 = .ok (.iadd, 1) := by decide +kernel
theorem dX4_block_61 : decode cX4_block 61 = .ok (.aload_n 0, 1) := by decide +kernel
theorem dX4_block_62 : decode cX4_block 62 = .ok (.getfield 9, 3) := by decide +kernel
theorem dX4_block_65 : decode cX4_block 65 = .ok (.iload_n 1, 1) := by decide +kernel
theorem dX4_block_66 : decode cX4_block 66 = .ok (.iaload, 1) := by decide +kernel
theorem dX4_block_67 : decode cX4_block 67 = .ok (.iastore, 1) := by decide +kernel
theorem dX4_block_68 : decode cX4_block 68 = .ok (.iinc 1 1, 3) := by decide +kernel
theorem dX4_block_71 : decode cX4_block 71 = .ok (.goto (-29), 3) := by decide +kernel
theorem dX4_block_74 : decode cX4_block 74 = .ok (.aload_n 0, 1) := by decide +kernel
theorem dX4_block_75 : decode cX4_block 75 = .ok (.iconst 0, 1) := by decide +kernel
theorem dX4_block_76 : decode cX4_block 76 = .ok (.putfield 68, 3) := by decide +kernel
theorem dX4_block_79 : decode cX4_block 79 = .ok (.aload_n 0, 1) := by decide +kernel
theorem dX4_block_80 : decode cX4_block 80 = .ok (.dup, 1) := by decide +kernel
theorem dX4_block_81 : decode cX4_block 81 = .ok (.getfield 71, 3) := by decide +kernel
theorem dX4_block_84 : decode cX4_block 84 = .ok (.iconst 1, 1) := by decide +kernel
theorem dX4_block_85 : decode cX4_block 85 = .ok (.iadd, 1) := by decide +kernel
theorem dX4_block_86 : decode cX4_block 86 = .ok (.putfield 71, 3) := by decide +kernel
theorem dX4_block_89 : decode cX4_block 89 = .ok (.aload_n 0, 1) := by decide +kernel
theorem dX4_block_90 : decode cX4_block 90 = .ok (.getfield 71, 3) := by decide +kernel
theorem dX4_block_93 : decode cX4_block 93 = .ok (.iconst 1, 1) := by decide +kernel
theorem dX4_block_94 : decode cX4_block 94 = .ok (.isub, 1) := by decide +kernel
theorem dX4_block_95 : decode cX4_block 95 = .ok (.ireturn, 1) := by decide +kernel
theorem dX4_misfitOf_0 : decode cX4_misfitOf 0 = .ok (.iconst 0, 1) := by decide +kernel
theorem dX4_misfitOf_1 : decode cX4_misfitOf 1 = .ok (.istore_n 3, 1) := by decide +kernel
theorem dX4_misfitOf_2 : decode cX4_misfitOf 2 = .ok (.iconst 0, 1) := by decide +kernel
theorem dX4_misfitOf_3 : decode cX4_misfitOf 3 = .ok (.istore 4, 2) := by decide +kernel
theorem dX4_misfitOf_5 : decode cX4_misfitOf 5 = .ok (.iload 4, 2) := by decide +kernel
theorem dX4_misfitOf_7 : decode cX4_misfitOf 7 = .ok (.bipush 12, 2) := by decide +kernel
theorem dX4_misfitOf_9 : decode cX4_misfitOf 9 = .ok (.if_icmp .ge 44, 3) := by decide +kernel
theorem dX4_misfitOf_12 : decode cX4_misfitOf 12 = .ok (.aload_n 0, 1) := by decide +kernel
theorem dX4_misfitOf_13 : decode cX4_misfitOf 13 = .ok (.getfield 9, 3) := by decide +kernel
theorem dX4_misfitOf_16 : decode cX4_misfitOf 16 = .ok (.iload 4, 2) := by decide +kernel
theorem dX4_misfitOf_18 : decode cX4_misfitOf 18 = .ok (.iload_n 2, 1) := by decide +kernel
theorem dX4_misfitOf_19 : decode cX4_misfitOf 19 = .ok (.iadd, 1) := by decide +kernel
theorem dX4_misfitOf_20 : decode cX4_misfitOf 20 = .ok (.bipush 12, 2) := by decide +kernel
theorem dX4_misfitOf_22 : decode cX4_misfitOf 22 = .ok (.irem, 1) := by decide +kernel
theorem dX4_misfitOf_23 : decode cX4_misfitOf 23 = .ok (.iaload, 1) := by decide +kernel
theorem dX4_misfitOf_24 : decode cX4_misfitOf 24 = .ok (.aload_n 0, 1) := by decide +kernel
theorem dX4_misfitOf_25 : decode cX4_misfitOf 25 = .ok (.getfield 13, 3) := by decide +kernel
theorem dX4_misfitOf_28 : decode cX4_misfitOf 28 = .ok (.bipush 12, 2) := by decide +kernel
theorem dX4_misfitOf_30 : decode cX4_misfitOf 30 = .ok (.iload_n 1, 1) := by decide +kernel
theorem dX4_misfitOf_31 : decode cX4_misfitOf 31 = .ok (.imul, 1) := by decide +kernel
theorem dX4_misfitOf_32 : decode cX4_misfitOf 32 = .ok (.iload 4, 2) := by decide +kernel
theorem dX4_misfitOf_34 : decode cX4_misfitOf 34 = .ok (.iadd, 1) := by decide +kernel
theorem dX4_misfitOf_35 : decode cX4_misfitOf 35 = .ok (.iaload, 1) := by decide +kernel
theorem dX4_misfitOf_36 : decode cX4_misfitOf 36 = .ok (.isub, 1) := by decide +kernel
theorem dX4_misfitOf_37 : decode cX4_misfitOf 37 = .ok (.istore 5, 2) := by decide +kernel
theorem dX4_misfitOf_39 : decode cX4_misfitOf 39 = .ok (.iload_n 3, 1) := by decide +kernel
theorem dX4_misfitOf_40 : decode cX4_misfitOf 40 = .ok (.iload 5, 2) := by decide +kernel
theorem dX4_misfitOf_42 : decode cX4_misfitOf 42 = .ok (.iload 5, 2) := by decide +kernel
theorem dX4_misfitOf_44 : decode cX4_misfitOf 44 = .ok (.imul, 1) := by decide +kernel
theorem dX4_misfitOf_45 : decode cX4_misfitOf 45 = .ok (.iadd, 1) := by decide +kernel
theorem dX4_misfitOf_46 : decode cX4_misfitOf 46 = .ok (.istore_n 3, 1) := by decide +kernel
theorem dX4_misfitOf_47 : decode cX4_misfitOf 47 = .ok (.iinc 4 1, 3) := by decide +kernel
theorem dX4_misfitOf_50 : decode cX4_misfitOf 50 = .ok (.goto (-45), 3) := by decide +kernel
theorem dX4_misfitOf_53 : decode cX4_misfitOf 53 = .ok (.iload_n 3, 1) := by decide +kernel
theorem dX4_misfitOf_54 : decode cX4_misfitOf 54 = .ok (.ireturn, 1) := by decide +kernel
theorem dX4_isBlock_0 : decode cX4_isBlock 0 = .ok (.aload_n 0, 1) := by decide +kernel
theorem dX4_isBlock_1 : decode cX4_isBlock 1 = .ok (.iload_n 1, 1) := by decide +kernel
theorem dX4_isBlock_2 : decode cX4_isBlock 2 = .ok (.ifCond .lt 11, 3) := by decide +kernel
theorem dX4_isBlock_5 : decode cX4_isBlock 5 = .ok (.iload_n 1, 1) := by decide +kernel
theorem dX4_isBlock_6 : decode cX4_isBlock 6 = .ok (.aload_n 0, 1) := by decide +kernel
theorem dX4_isBlock_7 : decode cX4_isBlock 7 = .ok (.getfield 71, 3) := by decide +kernel
theorem dX4_isBlock_10 : decode cX4_isBlock 10 = .ok (.if_icmp .lt 7, 3) := by decide +kernel
theorem dX4_isBlock_13 : decode cX4_isBlock 13 = .ok (.iconst 1, 1) := by decide +kernel
theorem dX4_isBlock_14 : decode cX4_isBlock 14 = .ok (.goto 4, 3) := by decide +kernel
theorem dX4_isBlock_17 : decode cX4_isBlock 17 = .ok (.iconst 0, 1) := by decide +kernel
theorem dX4_isBlock_18 : decode cX4_isBlock 18 = .ok (.putfield 61, 3) := by decide +kernel
theorem dX4_isBlock_21 : decode cX4_isBlock 21 = .ok (.aload_n 0, 1) := by decide +kernel
theorem dX4_isBlock_22 : decode cX4_isBlock 22 = .ok (.getfield 61, 3) := by decide +kernel
theorem dX4_isBlock_25 : decode cX4_isBlock 25 = .ok (.ifCond .ne 7, 3) := by decide +kernel
theorem dX4_isBlock_28 : decode cX4_isBlock 28 = .ok (.iconst 1, 1) := by decide +kernel
theorem dX4_isBlock_29 : decode cX4_isBlock 29 = .ok (.goto 4, 3) := by decide +kernel
theorem dX4_isBlock_32 : decode cX4_isBlock 32 = .ok (.iconst 0, 1) := by decide +kernel
theorem dX4_isBlock_33 : decode cX4_isBlock 33 = .ok (.ireturn, 1) := by decide +kernel
set_option maxRecDepth 20000 in
theorem ggX4_misfit_X4_isBlock : GoodIn wsX4_misfit wsX4_isBlock := goodIn_r _ [6, 7, 8, 19, 20, 21, 22, 23, 24, 25, 26, 27, 28, 29, 30, 31, 32, 33, 34, 35, 36, 37, 38, 39, 40, 41, 42, 43, 44, 45, 46] (by decide +kernel) (by decide +kernel)
set_option maxRecDepth 20000 in
theorem gX4_misfit_X4_isBlock : GoodIn wsX4_misfit (wsV RX4 74 RX4 yX4_isBlock wsX4_isBlock) := goodIn_app (goodIn_of _ (by decide +kernel)) ggX4_misfit_X4_isBlock
set_option maxRecDepth 20000 in
theorem ggX4_misfit_X4_bad : GoodIn wsX4_misfit wsX4_bad := goodIn_r _ [12, 8, 19, 20, 21, 22, 23, 24, 25, 26, 27, 28, 29, 30, 31, 32, 33, 34, 35, 36, 37, 38, 39, 40, 41, 42, 43, 44, 45, 46] (by decide +kernel) (by decide +kernel)
set_option maxRecDepth 20000 in
theorem gX4_misfit_X4_bad : GoodIn wsX4_misfit (wsV RX4 64 RX4 yX4_bad wsX4_bad) := goodIn_app (goodIn_of _ (by decide +kernel)) ggX4_misfit_X4_bad
set_option maxRecDepth 20000 in
theorem ggX4_misfit_X4_misfitOf : GoodIn wsX4_misfit wsX4_misfitOf := goodIn_r _ [16, 17, 18, 19, 20, 21, 22, 23, 24, 25, 26, 27, 28, 29, 30, 31, 32, 33, 34, 35, 36, 37, 38, 39, 40, 41, 42, 43, 44, 45, 46] (by decide +kernel) (by decide +kernel)
set_option maxRecDepth 20000 in
theorem gX4_misfit_X4_misfitOf : GoodIn wsX4_misfit (wsV RX4 78 RX4 yX4_misfitOf wsX4_misfitOf) := goodIn_app (goodIn_of _ (by decide +kernel)) ggX4_misfit_X4_misfitOf
theorem dX4_misfit_0 : decode cX4_misfit 0 = .ok (.aload_n 0, 1) := by decide +kernel
theorem dX4_misfit_1 : decode cX4_misfit 1 = .ok (.iload_n 1, 1) := by decide +kernel
theorem dX4_misfit_2 : decode cX4_misfit 2 = .ok (.invokevirtual 74, 3) := by decide +kernel
theorem dX4_misfit_5 : decode cX4_misfit 5 = .ok (.ifCond .eq 26, 3) := by decide +kernel
theorem dX4_misfit_8 : decode cX4_misfit 8 = .ok (.aload_n 0, 1) := by decide +kernel
theorem dX4_misfit_9 : decode cX4_misfit 9 = .ok (.iload_n 2, 1) := by decide +kernel
theorem dX4_misfit_10 : decode cX4_misfit 10 = .ok (.ifCond .lt 9, 3) := by decide +kernel
theorem dX4_misfit_13 : decode cX4_misfit 13 = .ok (.iload_n 2, 1) := by decide +kernel
theorem dX4_misfit_14 : decode cX4_misfit 14 = .ok (.bipush 12, 2) := by decide +kernel
theorem dX4_misfit_16 : decode cX4_misfit 16 = .ok (.if_icmp .lt 7, 3) := by decide +kernel
theorem dX4_misfit_19 : decode cX4_misfit 19 = .ok (.iconst 1, 1) := by decide +kernel
theorem dX4_misfit_20 : decode cX4_misfit 20 = .ok (.goto 4, 3) := by decide +kernel
theorem dX4_misfit_23 : decode cX4_misfit 23 = .ok (.iconst 0, 1) := by decide +kernel
theorem dX4_misfit_24 : decode cX4_misfit 24 = .ok (.iconst 2, 1) := by decide +kernel
theorem dX4_misfit_25 : decode cX4_misfit 25 = .ok (.invokevirtual 64, 3) := by decide +kernel
theorem dX4_misfit_28 : decode cX4_misfit 28 = .ok (.ifCond .eq 5, 3) := by decide +kernel
theorem dX4_misfit_31 : decode cX4_misfit 31 = .ok (.iconst 0, 1) := by decide +kernel
theorem dX4_misfit_32 : decode cX4_misfit 32 = .ok (.ireturn, 1) := by decide +kernel
theorem dX4_misfit_33 : decode cX4_misfit 33 = .ok (.aload_n 0, 1) := by decide +kernel
theorem dX4_misfit_34 : decode cX4_misfit 34 = .ok (.getfield 68, 3) := by decide +kernel
theorem dX4_misfit_37 : decode cX4_misfit 37 = .ok (.bipush 12, 2) := by decide +kernel
theorem dX4_misfit_39 : decode cX4_misfit 39 = .ok (.if_icmp .ge 7, 3) := by decide +kernel
theorem dX4_misfit_42 : decode cX4_misfit 42 = .ok (.iconst (-1), 1) := by decide +kernel
theorem dX4_misfit_43 : decode cX4_misfit 43 = .ok (.goto 9, 3) := by decide +kernel
theorem dX4_misfit_46 : decode cX4_misfit 46 = .ok (.aload_n 0, 1) := by decide +kernel
theorem dX4_misfit_47 : decode cX4_misfit 47 = .ok (.iload_n 1, 1) := by decide +kernel
theorem dX4_misfit_48 : decode cX4_misfit 48 = .ok (.iload_n 2, 1) := by decide +kernel
theorem dX4_misfit_49 : decode cX4_misfit 49 = .ok (.invokevirtual 78, 3) := by decide +kernel
theorem dX4_misfit_52 : decode cX4_misfit 52 = .ok (.ireturn, 1) := by decide +kernel
theorem dX4_feed_0 : decode cX4_feed 0 = .ok (.aload_n 0, 1) := by decide +kernel
theorem dX4_feed_1 : decode cX4_feed 1 = .ok (.iconst 0, 1) := by decide +kernel
theorem dX4_feed_2 : decode cX4_feed 2 = .ok (.putfield 61, 3) := by decide +kernel
theorem dX4_feed_5 : decode cX4_feed 5 = .ok (.aload_n 0, 1) := by decide +kernel
theorem dX4_feed_6 : decode cX4_feed 6 = .ok (.getfield 82, 3) := by decide +kernel
theorem dX4_feed_9 : decode cX4_feed 9 = .ok (.bipush 20, 2) := by decide +kernel
theorem dX4_feed_11 : decode cX4_feed 11 = .ok (.iadd, 1) := by decide +kernel
theorem dX4_feed_12 : decode cX4_feed 12 = .ok (.bipush 100, 2) := by decide +kernel
theorem dX4_feed_14 : decode cX4_feed 14 = .ok (.if_icmp .le 5, 3) := by decide +kernel
theorem dX4_feed_17 : decode cX4_feed 17 = .ok (.iconst (-1), 1) := by decide +kernel
theorem dX4_feed_18 : decode cX4_feed 18 = .ok (.ireturn, 1) := by decide +kernel
theorem dX4_feed_19 : decode cX4_feed 19 = .ok (.iconst 0, 1) := by decide +kernel
theorem dX4_feed_20 : decode cX4_feed 20 = .ok (.istore 6, 2) := by decide +kernel
theorem dX4_feed_22 : decode cX4_feed 22 = .ok (.iload 6, 2) := by decide +kernel
theorem dX4_feed_24 : decode cX4_feed 24 = .ok (.iconst 5, 1) := by decide +kernel
theorem dX4_feed_25 : decode cX4_feed 25 = .ok (.if_icmp .ge 93, 3) := by decide +kernel
theorem dX4_feed_28 : decode cX4_feed 28 = .ok (.iload 6, 2) := by decide +kernel
theorem dX4_feed_30 : decode cX4_feed 30 = .ok (.ifCond .ne 7, 3) := by decide +kernel
theorem dX4_feed_33 : decode cX4_feed 33 = .ok (.iload_n 1, 1) := by decide +kernel
theorem dX4_feed_34 : decode cX4_feed 34 = .ok (.goto 36, 3) := by decide +kernel
theorem dX4_feed_37 : decode cX4_feed 37 = .ok (.iload 6, 2) := by decide +kernel
theorem dX4_feed_39 : decode cX4_feed 39 = .ok (.iconst 1, 1) := by decide +kernel
theorem dX4_feed_40 : decode cX4_feed 40 = .ok (.if_icmp .ne 7, 3) := by decide +kernel
theorem dX4_feed_43 : decode cX4_feed 43 = .ok (.iload_n 2, 1) := by decide +kernel
theorem dX4_feed_44 : decode cX4_feed 44 = .ok (.goto 26, 3) := by decide +kernel
theorem dX4_feed_47 : decode cX4_feed 47 = .ok (.iload 6, 2) := by decide +kernel
theorem dX4_feed_49 : decode cX4_feed 49 = .ok (.iconst 2, 1) := by decide +kernel
theorem dX4_feed_50 : decode cX4_feed 50 = .ok (.if_icmp .ne 7, 3) := by decide +kernel
theorem dX4_feed_53 : decode cX4_feed 53 = .ok (.iload_n 3, 1) := by decide +kernel
theorem dX4_feed_54 : decode cX4_feed 54 = .ok (.goto 16, 3) := by decide +kernel
theorem dX4_feed_57 : decode cX4_feed 57 = .ok (.iload 6, 2) := by decide +kernel
theorem dX4_feed_59 : decode cX4_feed 59 = .ok (.iconst 3, 1) := by decide +kernel
theorem dX4_feed_60 : decode cX4_feed 60 = .ok (.if_icmp .ne 8, 3) := by decide +kernel
theorem dX4_feed_63 : decode cX4_feed 63 = .ok (.iload 4, 2) := by decide +kernel
theorem dX4_feed_65 : decode cX4_feed 65 = .ok (.goto 5, 3) := by decide +kernel
theorem dX4_feed_68 : decode cX4_feed 68 = .ok (.iload 5, 2) := by decide +kernel
theorem dX4_feed_70 : decode cX4_feed 70 = .ok (.istore 7, 2) := by decide +kernel
theorem dX4_feed_72 : decode cX4_feed 72 = .ok (.bipush 24, 2) := by decide +kernel
theorem dX4_feed_74 : decode cX4_feed 74 = .ok (.istore 8, 2) := by decide +kernel
theorem dX4_feed_76 : decode cX4_feed 76 = .ok (.iload 8, 2) := by decide +kernel
theorem dX4_feed_78 : decode cX4_feed 78 = .ok (.ifCond .lt 34, 3) := by decide +kernel
theorem dX4_feed_81 : decode cX4_feed 81 = .ok (.aload_n 0, 1) := by decide +kernel
theorem dX4_feed_82 : decode cX4_feed 82 = .ok (.getfield 16, 3) := by decide +kernel
theorem dX4_feed_85 : decode cX4_feed 85 = .ok (.aload_n 0, 1) := by decide +kernel
theorem dX4_feed_86 : decode cX4_feed 86 = .ok (.getfield 82, 3) := by decide +kernel
theorem dX4_feed_89 : decode cX4_feed 89 = .ok (.iload 7, 2) := by decide +kernel
theorem dX4_feed_91 : decode cX4_feed 91 = .ok (.iload 8, 2) := by decide +kernel
theorem dX4_feed_93 : decode cX4_feed 93 = .ok (.ishr, 1) := by decide +kernel
theorem dX4_feed_94 : decode cX4_feed 94 = .ok (.i2b, 1) := by decide +kernel
theorem dX4_feed_95 : decode cX4_feed 95 = .ok (.bastore, 1) := by decide +kernel
theorem dX4_feed_96 : decode cX4_feed 96 = .ok (.aload_n 0, 1) := by decide +kernel
theorem dX4_feed_97 : decode cX4_feed 97 = .ok (.dup, 1) := by decide +kernel
theorem dX4_feed_98 : decode cX4_feed 98 = .ok (.getfield 82, 3) := by decide +kernel
theorem dX4_feed_101 : decode cX4_feed 101 = .ok (.iconst 1, 1) := by decide +kernel
theorem dX4_feed_102 : decode cX4_feed 102 = .ok (.iadd, 1) := by decide +kernel
theorem dX4_feed_103 : decode cX4_feed 103 = .ok (.putfield 82, 3) := by decide +kernel
theorem dX4_feed_106 : decode cX4_feed 106 = .ok (.iinc 8 (-8), 3) := by decide +kernel
theorem dX4_feed_109 : decode cX4_feed 109 = .ok (.goto (-33), 3) := by decide +kernel
theorem dX4_feed_112 : decode cX4_feed 112 = .ok (.iinc 6 1, 3) := by decide +kernel
theorem dX4_feed_115 : decode cX4_feed 115 = .ok (.goto (-93), 3) := by decide +kernel
theorem dX4_feed_118 : decode cX4_feed 118 = .ok (.aload_n 0, 1) := by decide +kernel
theorem dX4_feed_119 : decode cX4_feed 119 = .ok (.getfield 82, 3) := by decide +kernel
theorem dX4_feed_122 : decode cX4_feed 122 = .ok (.ireturn, 1) := by decide +kernel
theorem dX4_byteAt_0 : decode cX4_byteAt 0 = .ok (.iload_n 1, 1) := by decide +kernel
theorem dX4_byteAt_1 : decode cX4_byteAt 1 = .ok (.aload_n 0, 1) := by decide +kernel
theorem dX4_byteAt_2 : decode cX4_byteAt 2 = .ok (.getfield 85, 3) := by decide +kernel
theorem dX4_byteAt_5 : decode cX4_byteAt 5 = .ok (.if_icmp .ge 16, 3) := by decide +kernel
theorem dX4_byteAt_8 : decode cX4_byteAt 8 = .ok (.aload_n 0, 1) := by decide +kernel
theorem dX4_byteAt_9 : decode cX4_byteAt 9 = .ok (.getfield 16, 3) := by decide +kernel
theorem dX4_byteAt_12 : decode cX4_byteAt 12 = .ok (.iload_n 1, 1) := by decide +kernel
theorem dX4_byteAt_13 : decode cX4_byteAt 13 = .ok (.baload, 1) := by decide +kernel
theorem dX4_byteAt_14 : decode cX4_byteAt 14 = .ok (.sipush 255, 3) := by decide +kernel
theorem dX4_byteAt_17 : decode cX4_byteAt 17 = .ok (.iand, 1) := by decide +kernel
theorem dX4_byteAt_18 : decode cX4_byteAt 18 = .ok (.goto 4, 3) := by decide +kernel
theorem dX4_byteAt_21 : decode cX4_byteAt 21 = .ok (.iconst 0, 1) := by decide +kernel
theorem dX4_byteAt_22 : decode cX4_byteAt 22 = .ok (.ireturn, 1) := by decide +kernel
set_option maxRecDepth 20000 in
theorem ggX4_blanks_X4_byteAt : GoodIn wsX4_blanks wsX4_byteAt := goodIn_r _ [7, 2, 8, 9, 10, 11, 12, 13, 14, 15, 16, 17, 18, 19, 20, 21, 22, 23, 24, 25, 26, 27, 28, 29, 30, 31, 32, 33, 34, 35, 36] (by decide +kernel) (by decide +kernel)
set_option maxRecDepth 20000 in
theorem gX4_blanks_X4_byteAt : GoodIn wsX4_blanks (wsV RX4 91 RX4 yX4_byteAt wsX4_byteAt) := goodIn_app (goodIn_of _ (by decide +kernel)) ggX4_blanks_X4_byteAt
theorem dX4_blanks_0 : decode cX4_blanks 0 = .ok (.aload_n 0, 1) := by decide +kernel
theorem dX4_blanks_1 : decode cX4_blanks 1 = .ok (.getfield 88, 3) := by decide +kernel
theorem dX4_blanks_4 : decode cX4_blanks 4 = .ok (.aload_n 0, 1) := by decide +kernel
theorem dX4_blanks_5 : decode cX4_blanks 5 = .ok (.getfield 85, 3) := by decide +kernel
theorem dX4_blanks_8 : decode cX4_blanks 8 = .ok (.if_icmp .ge 29, 3) := by decide +kernel
theorem dX4_blanks_11 : decode cX4_blanks 11 = .ok (.aload_n 0, 1) := by decide +kernel
theorem dX4_blanks_12 : decode cX4_blanks 12 = .ok (.aload_n 0, 1) := by decide +kernel
theorem dX4_blanks_13 : decode cX4_blanks 13 = .ok (.getfield 88, 3) := by decide +kernel
theorem dX4_blanks_16 : decode cX4_blanks 16 = .ok (.invokevirtual 91, 3) := by decide +kernel
theorem dX4_blanks_19 : decode cX4_blanks 19 = .ok (.bipush 32, 2) := by decide +kernel
theorem dX4_blanks_21 : decode cX4_blanks 21 = .ok (.if_icmp .ne 16, 3) := by decide +kernel
theorem dX4_blanks_24 : decode cX4_blanks 24 = .ok (.aload_n 0, 1) := by decide +kernel
theorem dX4_blanks_25 : decode cX4_blanks 25 = .ok (.dup, 1) := by decide +kernel
theorem dX4_blanks_26 : decode cX4_blanks 26 = .ok (.getfield 88, 3) := by decide +kernel
theorem dX4_blanks_29 : decode cX4_blanks 29 = .ok (.iconst 1, 1) := by decide +kernel
theorem dX4_blanks_30 : decode cX4_blanks 30 = .ok (.iadd, 1) := by decide +kernel
theorem dX4_blanks_31 : decode cX4_blanks 31 = .ok (.putfield 88, 3) := by decide +kernel
theorem dX4_blanks_34 : decode cX4_blanks 34 = .ok (.goto (-34), 3) := by decide +kernel
theorem dX4_blanks_37 : decode cX4_blanks 37 = .ok (.return_, 1) := by decide +kernel
theorem dX4_isSmall_0 : decode cX4_isSmall 0 = .ok (.iload_n 0, 1) := by decide +kernel
theorem dX4_isSmall_1 : decode cX4_isSmall 1 = .ok (.bipush 97, 2) := by decide +kernel
theorem dX4_isSmall_3 : decode cX4_isSmall 3 = .ok (.if_icmp .lt 13, 3) := by decide +kernel
theorem dX4_isSmall_6 : decode cX4_isSmall 6 = .ok (.iload_n 0, 1) := by decide +kernel
theorem dX4_isSmall_7 : decode cX4_isSmall 7 = .ok (.bipush 122, 2) := by decide +kernel
theorem dX4_isSmall_9 : decode cX4_isSmall 9 = .ok (.if_icmp .gt 7, 3) := by decide +kernel
theorem dX4_isSmall_12 : decode cX4_isSmall 12 = .ok (.iconst 1, 1) := by decide +kernel
theorem dX4_isSmall_13 : decode cX4_isSmall 13 = .ok (.goto 4, 3) := by decide +kernel
theorem dX4_isSmall_16 : decode cX4_isSmall 16 = .ok (.iconst 0, 1) := by decide +kernel
theorem dX4_isSmall_17 : decode cX4_isSmall 17 = .ok (.ireturn, 1) := by decide +kernel
theorem dX4_isDigit_0 : decode cX4_isDigit 0 = .ok (.iload_n 0, 1) := by decide +kernel
theorem dX4_isDigit_1 : decode cX4_isDigit 1 = .ok (.bipush 48, 2) := by decide +kernel
theorem dX4_isDigit_3 : decode cX4_isDigit 3 = .ok (.if_icmp .lt 13, 3) := by decide +kernel
theorem dX4_isDigit_6 : decode cX4_isDigit 6 = .ok (.iload_n 0, 1) := by decide +kernel
theorem dX4_isDigit_7 : decode cX4_isDigit 7 = .ok (.bipush 57, 2) := by decide +kernel
theorem dX4_isDigit_9 : decode cX4_isDigit 9 = .ok (.if_icmp .gt 7, 3) := by decide +kernel
theorem dX4_isDigit_12 : decode cX4_isDigit 12 = .ok (.iconst 1, 1) := by decide +kernel
theorem dX4_isDigit_13 : decode cX4_isDigit 13 = .ok (.goto 4, 3) := by decide +kernel
theorem dX4_isDigit_16 : decode cX4_isDigit 16 = .ok (.iconst 0, 1) := by decide +kernel
theorem dX4_isDigit_17 : decode cX4_isDigit 17 = .ok (.ireturn, 1) := by decide +kernel
theorem dX4_wrong_0 : decode cX4_wrong 0 = .ok (.aload_n 0, 1) := by decide +kernel
theorem dX4_wrong_1 : decode cX4_wrong 1 = .ok (.getfield 95, 3) := by decide +kernel
theorem dX4_wrong_4 : decode cX4_wrong 4 = .ok (.ifCond .le 4, 3) := by decide +kernel
theorem dX4_wrong_7 : decode cX4_wrong 7 = .ok (.return_, 1) := by decide +kernel
theorem dX4_wrong_8 : decode cX4_wrong 8 = .ok (.aload_n 0, 1) := by decide +kernel
theorem dX4_wrong_9 : decode cX4_wrong 9 = .ok (.iload_n 1, 1) := by decide +kernel
theorem dX4_wrong_10 : decode cX4_wrong 10 = .ok (.putfield 95, 3) := by decide +kernel
theorem dX4_wrong_13 : decode cX4_wrong 13 = .ok (.aload_n 0, 1) := by decide +kernel
theorem dX4_wrong_14 : decode cX4_wrong 14 = .ok (.iload_n 2, 1) := by decide +kernel
theorem dX4_wrong_15 : decode cX4_wrong 15 = .ok (.putfield 20, 3) := by decide +kernel
theorem dX4_wrong_18 : decode cX4_wrong 18 = .ok (.return_, 1) := by decide +kernel
theorem dX4_partName_0 : decode cX4_partName 0 = .ok (.iload_n 0, 1) := by decide +kernel
theorem dX4_partName_1 : decode cX4_partName 1 = .ok (.tableswitch 36 0 2 #[27, 30, 33], 27) := by decide +kernel
theorem dX4_partName_28 : decode cX4_partName 28 = .ok (.ldc 98, 2) := by decide +kernel
theorem dX4_partName_30 : decode cX4_partName 30 = .ok (.areturn, 1) := by decide +kernel
theorem dX4_partName_31 : decode cX4_partName 31 = .ok (.ldc 100, 2) := by decide +kernel
theorem dX4_partName_33 : decode cX4_partName 33 = .ok (.areturn, 1) := by decide +kernel
theorem dX4_partName_34 : decode cX4_partName 34 = .ok (.ldc 102, 2) := by decide +kernel
theorem dX4_partName_36 : decode cX4_partName 36 = .ok (.areturn, 1) := by decide +kernel
theorem dX4_partName_37 : decode cX4_partName 37 = .ok (.ldc 104, 2) := by decide +kernel
theorem dX4_partName_39 : decode cX4_partName 39 = .ok (.areturn, 1) := by decide +kernel
set_option maxRecDepth 20000 in
theorem ggX4_isWord_J0_length_8abf5 : GoodIn wsX4_isWord wsJ0_length_8abf5 := goodIn_r _ [6, 7, 8, 9, 10, 5, 11, 12, 13] (by decide +kernel) (by decide +kernel)
set_option maxRecDepth 20000 in
theorem gX4_isWord_J0_length_8abf5 : GoodIn wsX4_isWord (wsV RX4 106 RJ0 yJ0_length_8abf5 wsJ0_length_8abf5) := goodIn_app (goodIn_of _ (by decide +kernel)) ggX4_isWord_J0_length_8abf5
set_option maxRecDepth 20000 in
theorem ggX4_isWord_X4_byteAt : GoodIn wsX4_isWord wsX4_byteAt := goodIn_r _ [18, 19, 20, 61, 62, 63, 64, 65, 66, 67, 68, 69, 70, 71, 72, 73, 74, 75, 76, 77, 78, 79, 80, 81, 82, 83, 84, 85, 86, 87, 88] (by decide +kernel) (by decide +kernel)
set_option maxRecDepth 20000 in
theorem gX4_isWord_X4_byteAt : GoodIn wsX4_isWord (wsV RX4 91 RX4 yX4_byteAt wsX4_byteAt) := goodIn_app (goodIn_of _ (by decide +kernel)) ggX4_isWord_X4_byteAt
set_option maxRecDepth 20000 in
theorem ggX4_isWord_J0_charAt_5068e : GoodIn wsX4_isWord wsJ0_charAt_5068e := goodIn_r _ [24, 7, 25, 26, 27, 5, 28, 12, 13, 29, 30, 31, 32, 33, 34, 35, 36, 37, 38, 39, 40, 41, 42, 43, 44, 45, 46, 47, 48, 49, 50, 51, 52, 53, 54, 55, 56, 57] (by decide +kernel) (by decide +kernel)
set_option maxRecDepth 20000 in
theorem gX4_isWord_J0_charAt_5068e : GoodIn wsX4_isWord (wsV RX4 112 RJ0 yJ0_charAt_5068e wsJ0_charAt_5068e) := goodIn_app (goodIn_of _ (by decide +kernel)) ggX4_isWord_J0_charAt_5068e
set_option maxRecDepth 20000 in
theorem ggX4_isWord_X4_isSmall : GoodIn wsX4_isWord wsX4_isSmall := goodIn_r _ [60] (by decide +kernel) (by decide +kernel)
set_option maxRecDepth 20000 in
theorem gX4_isWord_X4_isSmall : GoodIn wsX4_isWord (va_wsS RX4 116 yX4_isSmall wsX4_isSmall) := goodIn_app (goodIn_of _ (by decide +kernel)) ggX4_isWord_X4_isSmall
theorem dX4_isWord_0 : decode cX4_isWord 0 = .ok (.iconst 0, 1) := by decide +kernel
theorem dX4_isWord_1 : decode cX4_isWord 1 = .ok (.istore_n 2, 1) := by decide +kernel
theorem dX4_isWord_2 : decode cX4_isWord 2 = .ok (.iload_n 2, 1) := by decide +kernel
theorem dX4_isWord_3 : decode cX4_isWord 3 = .ok (.aload_n 1, 1) := by decide +kernel
theorem dX4_isWord_4 : decode cX4_isWord 4 = .ok (.invokevirtual 106, 3) := by decide +kernel
theorem dX4_isWord_7 : decode cX4_isWord 7 = .ok (.if_icmp .ge 29, 3) := by decide +kernel
theorem dX4_isWord_10 : decode cX4_isWord 10 = .ok (.aload_n 0, 1) := by decide +kernel
theorem dX4_isWord_11 : decode cX4_isWord 11 = .ok (.aload_n 0, 1) := by decide +kernel
theorem dX4_isWord_12 : decode cX4_isWord 12 = .ok (.getfield 88, 3) := by decide +kernel
theorem dX4_isWord_15 : decode cX4_isWord 15 = .ok (.iload_n 2, 1) := by decide +kernel
theorem dX4_isWord_16 : decode cX4_isWord 16 = .ok (.iadd, 1) := by decide +kernel
theorem dX4_isWord_17 : decode cX4_isWord 17 = .ok (.invokevirtual 91, 3) := by decide +kernel
theorem dX4_isWord_20 : decode cX4_isWord 20 = .ok (.aload_n 1, 1) := by decide +kernel
theorem dX4_isWord_21 : decode cX4_isWord 21 = .ok (.iload_n 2, 1) := by decide +kernel
theorem dX4_isWord_22 : decode cX4_isWord 22 = .ok (.invokevirtual 112, 3) := by decide +kernel
theorem dX4_isWord_25 : decode cX4_isWord 25 = .ok (.if_icmp .eq 5, 3) := by decide +kernel
theorem dX4_isWord_28 : decode cX4_isWord 28 = .ok (.iconst 0, 1) := by decide +kernel
theorem dX4_isWord_29 : decode cX4_isWord 29 = .ok (.ireturn, 1) := by decide +kernel
theorem dX4_isWord_30 : decode cX4_isWord 30 = .ok (.iinc 2 1, 3) := by decide +kernel
theorem dX4_isWord_33 : decode cX4_isWord 33 = .ok (.goto (-31), 3) := by decide +kernel
theorem dX4_isWord_36 : decode cX4_isWord 36 = .ok (.aload_n 0, 1) := by decide +kernel
theorem dX4_isWord_37 : decode cX4_isWord 37 = .ok (.aload_n 0, 1) := by decide +kernel
theorem dX4_isWord_38 : decode cX4_isWord 38 = .ok (.getfield 88, 3) := by decide +kernel
theorem dX4_isWord_41 : decode cX4_isWord 41 = .ok (.aload_n 1, 1) := by decide +kernel
theorem dX4_isWord_42 : decode cX4_isWord 42 = .ok (.invokevirtual 106, 3) := by decide +kernel
theorem dX4_isWord_45 : decode cX4_isWord 45 = .ok (.iadd, 1) := by decide +kernel
theorem dX4_isWord_46 : decode cX4_isWord 46 = .ok (.invokevirtual 91, 3) := by decide +kernel
theorem dX4_isWord_49 : decode cX4_isWord 49 = .ok (.invokestatic 116, 3) := by decide +kernel
theorem dX4_isWord_52 : decode cX4_isWord 52 = .ok (.ifCond .ne 7, 3) := by decide +kernel
theorem dX4_isWord_55 : decode cX4_isWord 55 = .ok (.iconst 1, 1) := by decide +kernel
theorem dX4_isWord_56 : decode cX4_isWord 56 = .ok (.goto 4, 3) := by decide +kernel
theorem dX4_isWord_59 : decode cX4_isWord 59 = .ok (.iconst 0, 1) := by decide +kernel
theorem dX4_isWord_60 : decode cX4_isWord 60 = .ok (.ireturn, 1) := by decide +kernel
set_option maxRecDepth 20000 in
theorem ggX4_readPart_X4_blanks : GoodIn wsX4_readPart wsX4_blanks := goodIn_r _ [8, 2, 9, 10, 11, 12, 7, 13, 14, 83, 84, 85, 86, 87, 88, 89, 90, 91, 92, 93, 94, 95, 96, 97, 98, 99, 100, 101, 102, 103, 104, 105, 106, 107, 108, 109, 110] (by decide +kernel) (by decide +kernel)
set_option maxRecDepth 20000 in
theorem gX4_readPart_X4_blanks : GoodIn wsX4_readPart (wsV RX4 119 RX4 yX4_blanks wsX4_blanks) := goodIn_app (goodIn_of _ (by decide +kernel)) ggX4_readPart_X4_blanks
set_option maxRecDepth 20000 in
theorem ggX4_readPart_X4_partName : GoodIn wsX4_readPart wsX4_partName := goodIn_r _ [17] (by decide +kernel) (by decide +kernel)
set_option maxRecDepth 20000 in
theorem gX4_readPart_X4_partName : GoodIn wsX4_readPart (va_wsS RX4 122 yX4_partName wsX4_partName) := goodIn_app (goodIn_of _ (by decide +kernel)) ggX4_readPart_X4_partName
set_option maxRecDepth 20000 in
theorem ggX4_readPart_X4_isWord : GoodIn wsX4_readPart wsX4_isWord := goodIn_r _ [21, 2, 22, 23, 24, 25, 26, 27, 28, 29, 30, 31, 32, 33, 10, 11, 12, 7, 13, 9, 14, 34, 35, 36, 37, 38, 39, 40, 41, 42, 43, 44, 45, 46, 47, 48, 49, 50, 51, 52, 53, 54, 55, 56, 57, 58, 59, 60, 61, 62, 63, 64, 65, 66, 67, 68, 69, 70, 71, 72, 73, 83, 84, 85, 86, 87, 88, 89, 90, 91, 92, 93, 94, 95, 96, 97, 98, 99, 100, 101, 102, 103, 104, 105, 106, 107, 108, 109, 110] (by decide +kernel) (by decide +kernel)
set_option maxRecDepth 20000 in
theorem gX4_readPart_X4_isWord : GoodIn wsX4_readPart (wsV RX4 126 RX4 yX4_isWord wsX4_isWord) := goodIn_app (goodIn_of _ (by decide +kernel)) ggX4_readPart_X4_isWord
set_option maxRecDepth 20000 in
theorem ggX4_readPart_X4_wrong : GoodIn wsX4_readPart wsX4_wrong := goodIn_r _ [77, 78, 79, 83, 84, 85, 86, 87, 88, 89, 90, 91, 92, 93, 94, 95, 96, 97, 98, 99, 100, 101, 102, 103, 104, 105, 106, 107, 108, 109, 110] (by decide +kernel) (by decide +kernel)
set_option maxRecDepth 20000 in
theorem gX4_readPart_X4_wrong : GoodIn wsX4_readPart (wsV RX4 130 RX4 yX4_wrong wsX4_wrong) := goodIn_app (goodIn_of _ (by decide +kernel)) ggX4_readPart_X4_wrong
set_option maxRecDepth 20000 in
theorem ggX4_readPart_J0_length_8abf5 : GoodIn wsX4_readPart wsJ0_length_8abf5 := goodIn_r _ [26, 27, 28, 29, 30, 25, 31, 32, 33] (by decide +kernel) (by decide +kernel)
set_option maxRecDepth 20000 in
theorem gX4_readPart_J0_length_8abf5 : GoodIn wsX4_readPart (wsV RX4 106 RJ0 yJ0_length_8abf5 wsJ0_length_8abf5) := goodIn_app (goodIn_of _ (by decide +kernel)) ggX4_readPart_J0_length_8abf5
set_option maxRecDepth 20000 in
theorem ggX4_readPart_X4_byteAt : GoodIn wsX4_readPart wsX4_byteAt := goodIn_r _ [13, 9, 14, 83, 84, 85, 86, 87, 88, 89, 90, 91, 92, 93, 94, 95, 96, 97, 98, 99, 100, 101, 102, 103, 104, 105, 106, 107, 108, 109, 110] (by decide +kernel) (by decide +kernel)
set_option maxRecDepth 20000 in
theorem gX4_readPart_X4_byteAt : GoodIn wsX4_readPart (wsV RX4 91 RX4 yX4_byteAt wsX4_byteAt) := goodIn_app (goodIn_of _ (by decide +kernel)) ggX4_readPart_X4_byteAt
set_option maxRecDepth 20000 in
theorem ggX4_readPart_X4_isDigit : GoodIn wsX4_readPart wsX4_isDigit := goodIn_r _ [82] (by decide +kernel) (by decide +kernel)
set_option maxRecDepth 20000 in
theorem gX4_readPart_X4_isDigit : GoodIn wsX4_readPart (va_wsS RX4 134 yX4_isDigit wsX4_isDigit) := goodIn_app (goodIn_of _ (by decide +kernel)) ggX4_readPart_X4_isDigit
theorem dX4_readPart_0 : decode cX4_readPart 0 = .ok (.aload_n 0, 1) := by decide +kernel
theorem dX4_readPart_1 : decode cX4_readPart 1 = .ok (.invokevirtual 119, 3) := by decide +kernel
theorem dX4_readPart_4 : decode cX4_readPart 4 = .ok (.iconst 0, 1) := by decide +kernel
theorem dX4_readPart_5 : decode cX4_readPart 5 = .ok (.istore_n 1, 1) := by decide +kernel
theorem dX4_readPart_6 : decode cX4_readPart 6 = .ok (.iload_n 1, 1) := by decide +kernel
theorem dX4_readPart_7 : decode cX4_readPart 7 = .ok (.iconst 4, 1) := by decide +kernel
theorem dX4_readPart_8 : decode cX4_readPart 8 = .ok (.if_icmp .ge 20, 3) := by decide +kernel
theorem dX4_readPart_11 : decode cX4_readPart 11 = .ok (.aload_n 0, 1) := by decide +kernel
theorem dX4_readPart_12 : decode cX4_readPart 12 = .ok (.iload_n 1, 1) := by decide +kernel
theorem dX4_readPart_13 : decode cX4_readPart 13 = .ok (.invokestatic 122, 3) := by decide +kernel
theorem dX4_readPart_16 : decode cX4_readPart 16 = .ok (.invokevirtual 126, 3) := by decide +kernel
theorem dX4_readPart_19 : decode cX4_readPart 19 = .ok (.ifCond .ne 9, 3) := by decide +kernel
theorem dX4_readPart_22 : decode cX4_readPart 22 = .ok (.iinc 1 1, 3) := by decide +kernel
theorem dX4_readPart_25 : decode cX4_readPart 25 = .ok (.goto (-19), 3) := by decide +kernel
theorem dX4_readPart_28 : decode cX4_readPart 28 = .ok (.iload_n 1, 1) := by decide +kernel
theorem dX4_readPart_29 : decode cX4_readPart 29 = .ok (.iconst 4, 1) := by decide +kernel
theorem dX4_readPart_30 : decode cX4_readPart 30 = .ok (.if_icmp .eq 12, 3) := by decide +kernel
theorem dX4_readPart_33 : decode cX4_readPart 33 = .ok (.aload_n 0, 1) := by decide +kernel
theorem dX4_readPart_34 : decode cX4_readPart 34 = .ok (.getfield 27, 3) := by decide +kernel
theorem dX4_readPart_37 : decode cX4_readPart 37 = .ok (.iload_n 1, 1) := by decide +kernel
theorem dX4_readPart_38 : decode cX4_readPart 38 = .ok (.baload, 1) := by decide +kernel
theorem dX4_readPart_39 : decode cX4_readPart 39 = .ok (.ifCond .eq 13, 3) := by decide +kernel
theorem dX4_readPart_42 : decode cX4_readPart 42 = .ok (.aload_n 0, 1) := by decide +kernel
theorem dX4_readPart_43 : decode cX4_readPart 43 = .ok (.iconst 1, 1) := by decide +kernel
theorem dX4_readPart_44 : decode cX4_readPart 44 = .ok (.aload_n 0, 1) := by decide +kernel
theorem dX4_readPart_45 : decode cX4_readPart 45 = .ok (.getfield 88, 3) := by decide +kernel
theorem dX4_readPart_48 : decode cX4_readPart 48 = .ok (.invokevirtual 130, 3) := by decide +kernel
theorem dX4_readPart_51 : decode cX4_readPart 51 = .ok (.return_, 1) := by decide +kernel
theorem dX4_readPart_52 : decode cX4_readPart 52 = .ok (.aload_n 0, 1) := by decide +kernel
theorem dX4_readPart_53 : decode cX4_readPart 53 = .ok (.getfield 27, 3) := by decide +kernel
theorem dX4_readPart_56 : decode cX4_readPart 56 = .ok (.iload_n 1, 1) := by decide +kernel
theorem dX4_readPart_57 : decode cX4_readPart 57 = .ok (.iconst 1, 1) := by decide +kernel
theorem dX4_readPart_58 : decode cX4_readPart 58 = .ok (.bastore, 1) := by decide +kernel
theorem dX4_readPart_59 : decode cX4_readPart 59 = .ok (.aload_n 0, 1) := by decide +kernel
theorem dX4_readPart_60 : decode cX4_readPart 60 = .ok (.dup, 1) := by decide +kernel
theorem dX4_readPart_61 : decode cX4_readPart 61 = .ok (.getfield 88, 3) := by decide +kernel
theorem dX4_readPart_64 : decode cX4_readPart 64 = .ok (.iload_n 1, 1) := by decide +kernel
theorem dX4_readPart_65 : decode cX4_readPart 65 = .ok (.invokestatic 122, 3) := by decide +kernel
theorem dX4_readPart_68 : decode cX4_readPart 68 = .ok (.invokevirtual 106, 3) := by decide +kernel
theorem dX4_readPart_71 : decode cX4_readPart 71 = .ok (.iadd, 1) := by decide +kernel
theorem dX4_readPart_72 : decode cX4_readPart 72 = .ok (.putfield 88, 3) := by decide +kernel
theorem dX4_readPart_75 : decode cX4_readPart 75 = .ok (.aload_n 0, 1) := by decide +kernel
theorem dX4_readPart_76 : decode cX4_readPart 76 = .ok (.invokevirtual 119, 3) := by decide +kernel
theorem dX4_readPart_79 : decode cX4_readPart 79 = .ok (.aload_n 0, 1) := by decide +kernel
theorem dX4_readPart_80 : decode cX4_readPart 80 = .ok (.getfield 88, 3) := by decide +kernel
theorem dX4_readPart_83 : decode cX4_readPart 83 = .ok (.istore_n 2, 1) := by decide +kernel
theorem dX4_readPart_84 : decode cX4_readPart 84 = .ok (.aload_n 0, 1) := by decide +kernel
theorem dX4_readPart_85 : decode cX4_readPart 85 = .ok (.aload_n 0, 1) := by decide +kernel
theorem dX4_readPart_86 : decode cX4_readPart 86 = .ok (.getfield 88, 3) := by decide +kernel
theorem dX4_readPart_89 : decode cX4_readPart 89 = .ok (.invokevirtual 91, 3) := by decide +kernel
theorem dX4_readPart_92 : decode cX4_readPart 92 = .ok (.invokestatic 134, 3) := by decide +kernel
theorem dX4_readPart_95 : decode cX4_readPart 95 = .ok (.ifCond .ne 13, 3) := by decide +kernel
theorem dX4_readPart_98 : decode cX4_readPart 98 = .ok (.aload_n 0, 1) := by decide +kernel
theorem dX4_readPart_99 : decode cX4_readPart 99 = .ok (.iconst 1, 1) := by decide +kernel
theorem dX4_readPart_100 : decode cX4_readPart 100 = .ok (.aload_n 0, 1) := by decide +kernel
theorem dX4_readPart_101 : decode cX4_readPart 101 = .ok (.getfield 88, 3) := by decide +kernel
theorem dX4_readPart_104 : decode cX4_readPart 104 = .ok (.invokevirtual 130, 3) := by decide +kernel
theorem dX4_readPart_107 : decode cX4_readPart 107 = .ok (.return_, 1) := by decide +kernel
theorem dX4_readPart_108 : decode cX4_readPart 108 = .ok (.iconst 0, 1) := by decide +kernel
theorem dX4_readPart_109 : decode cX4_readPart 109 = .ok (.istore_n 3, 1) := by decide +kernel
theorem dX4_readPart_110 : decode cX4_readPart 110 = .ok (.aload_n 0, 1) := by decide +kernel
theorem dX4_readPart_111 : decode cX4_readPart 111 = .ok (.aload_n 0, 1) := by decide +kernel
theorem dX4_readPart_112 : decode cX4_readPart 112 = .ok (.getfield 88, 3) := by decide +kernel
theorem dX4_readPart_115 : decode cX4_readPart 115 = .ok (.invokevirtual 91, 3) := by decide +kernel
theorem dX4_readPart_118 : decode cX4_readPart 118 = .ok (.invokestatic 134, 3) := by decide +kernel
theorem dX4_readPart_121 : decode cX4_readPart 121 = .ok (.ifCond .eq 44, 3) := by decide +kernel
theorem dX4_readPart_124 : decode cX4_readPart 124 = .ok (.iload_n 3, 1) := by decide +kernel
theorem dX4_readPart_125 : decode cX4_readPart 125 = .ok (.sipush 1000, 3) := by decide +kernel
theorem dX4_readPart_128 : decode cX4_readPart 128 = .ok (.if_icmp .le 7, 3) := by decide +kernel
theorem dX4_readPart_131 : decode cX4_readPart 131 = .ok (.iload_n 3, 1) := by decide +kernel
theorem dX4_readPart_132 : decode cX4_readPart 132 = .ok (.goto 19, 3) := by decide +kernel
theorem dX4_readPart_135 : decode cX4_readPart 135 = .ok (.bipush 10, 2) := by decide +kernel
theorem dX4_readPart_137 : decode cX4_readPart 137 = .ok (.iload_n 3, 1) := by decide +kernel
theorem dX4_readPart_138 : decode cX4_readPart 138 = .ok (.imul, 1) := by decide +kernel
theorem dX4_readPart_139 : decode cX4_readPart 139 = .ok (.aload_n 0, 1) := by decide +kernel
theorem dX4_readPart_140 : decode cX4_readPart 140 = .ok (.aload_n 0, 1) := by decide +kernel
theorem dX4_readPart_141 : decode cX4_readPart 141 = .ok (.getfield 88, 3) := by decide +kernel
theorem dX4_readPart_144 : decode cX4_readPart 144 = .ok (.invokevirtual 91, 3) := by decide +kernel
theorem dX4_readPart_147 : decode cX4_readPart 147 = .ok (.iadd, 1) := by decide +kernel
theorem dX4_readPart_148 : decode cX4_readPart 148 = .ok (.bipush 48, 2) := by decide +kernel
theorem dX4_readPart_150 : decode cX4_readPart 150 = .ok (.isub, 1) := by decide +kernel
theorem dX4_readPart_151 : decode cX4_readPart 151 = .ok (.istore_n 3, 1) := by decide +kernel
theorem dX4_readPart_152 : decode cX4_readPart 152 = .ok (.aload_n 0, 1) := by decide +kernel
theorem dX4_readPart_153 : decode cX4_readPart 153 = .ok (.dup, 1) := by decide +kernel
theorem dX4_readPart_154 : decode cX4_readPart 154 = .ok (.getfield 88, 3) := by decide +kernel
theorem dX4_readPart_157 : decode cX4_readPart 157 = .ok (.iconst 1, 1) := by decide +kernel
theorem dX4_readPart_158 : decode cX4_readPart 158 = .ok (.iadd, 1) := by decide +kernel
theorem dX4_readPart_159 : decode cX4_readPart 159 = .ok (.putfield 88, 3) := by decide +kernel
theorem dX4_readPart_162 : decode cX4_readPart 162 = .ok (.goto (-52), 3) := by decide +kernel
theorem dX4_readPart_165 : decode cX4_readPart 165 = .ok (.iload_n 1, 1) := by decide +kernel
theorem dX4_readPart_166 : decode cX4_readPart 166 = .ok (.ifCond .ne 7, 3) := by decide +kernel
theorem dX4_readPart_169 : decode cX4_readPart 169 = .ok (.iconst 5, 1) := by decide +kernel
theorem dX4_readPart_170 : decode cX4_readPart 170 = .ok (.goto 13, 3) := by decide +kernel
theorem dX4_readPart_173 : decode cX4_readPart 173 = .ok (.iload_n 1, 1) := by decide +kernel
theorem dX4_readPart_174 : decode cX4_readPart 174 = .ok (.iconst 3, 1) := by decide +kernel
theorem dX4_readPart_175 : decode cX4_readPart 175 = .ok (.if_icmp .ne 7, 3) := by decide +kernel
theorem dX4_readPart_178 : decode cX4_readPart 178 = .ok (.iconst 1, 1) := by decide +kernel
theorem dX4_readPart_179 : decode cX4_readPart 179 = .ok (.goto 4, 3) := by decide +kernel
theorem dX4_readPart_182 : decode cX4_readPart 182 = .ok (.iconst 0, 1) := by decide +kernel
theorem dX4_readPart_183 : decode cX4_readPart 183 = .ok (.istore 4, 2) := by decide +kernel
theorem dX4_readPart_185 : decode cX4_readPart 185 = .ok (.iload_n 1, 1) := by decide +kernel
theorem dX4_readPart_186 : decode cX4_readPart 186 = .ok (.ifCond .ne 8, 3) := by decide +kernel
theorem dX4_readPart_189 : decode cX4_readPart 189 = .ok (.bipush 30, 2) := by decide +kernel
theorem dX4_readPart_191 : decode cX4_readPart 191 = .ok (.goto 24, 3) := by decide +kernel
theorem dX4_readPart_194 : decode cX4_readPart 194 = .ok (.iload_n 1, 1) := by decide +kernel
theorem dX4_readPart_195 : decode cX4_readPart 195 = .ok (.iconst 1, 1) := by decide +kernel
theorem dX4_readPart_196 : decode cX4_readPart 196 = .ok (.if_icmp .ne 8, 3) := by decide +kernel
theorem dX4_readPart_199 : decode cX4_readPart 199 = .ok (.bipush 20, 2) := by decide +kernel
theorem dX4_readPart_201 : decode cX4_readPart 201 = .ok (.goto 14, 3) := by decide +kernel
theorem dX4_readPart_204 : decode cX4_readPart 204 = .ok (.iload_n 1, 1) := by decide +kernel
theorem dX4_readPart_205 : decode cX4_readPart 205 = .ok (.iconst 2, 1) := by decide +kernel
theorem dX4_readPart_206 : decode cX4_readPart 206 = .ok (.if_icmp .ne 8, 3) := by decide +kernel
theorem dX4_readPart_209 : decode cX4_readPart 209 = .ok (.bipush 9, 2) := by decide +kernel
theorem dX4_readPart_211 : decode cX4_readPart 211 = .ok (.goto 4, 3) := by decide +kernel
theorem dX4_readPart_214 : decode cX4_readPart 214 = .ok (.iconst 5, 1) := by decide +kernel
theorem dX4_readPart_215 : decode cX4_readPart 215 = .ok (.istore 5, 2) := by decide +kernel
theorem dX4_readPart_217 : decode cX4_readPart 217 = .ok (.iload_n 3, 1) := by decide +kernel
theorem dX4_readPart_218 : decode cX4_readPart 218 = .ok (.iload 4, 2) := by decide +kernel
theorem dX4_readPart_220 : decode cX4_readPart 220 = .ok (.if_icmp .lt 9, 3) := by decide +kernel
theorem dX4_readPart_223 : decode cX4_readPart 223 = .ok (.iload_n 3, 1) := by decide +kernel
theorem dX4_readPart_224 : decode cX4_readPart 224 = .ok (.iload 5, 2) := by decide +kernel
theorem dX4_readPart_226 : decode cX4_readPart 226 = .ok (.if_icmp .le 9, 3) := by decide +kernel
theorem dX4_readPart_229 : decode cX4_readPart 229 = .ok (.aload_n 0, 1) := by decide +kernel
theorem dX4_readPart_230 : decode cX4_readPart 230 = .ok (.iconst 2, 1) := by decide +kernel
theorem dX4_readPart_231 : decode cX4_readPart 231 = .ok (.iload_n 2, 1) := by decide +kernel
theorem dX4_readPart_232 : decode cX4_readPart 232 = .ok (.invokevirtual 130, 3) := by decide +kernel
theorem dX4_readPart_235 : decode cX4_readPart 235 = .ok (.aload_n 0, 1) := by decide +kernel
theorem dX4_readPart_236 : decode cX4_readPart 236 = .ok (.getfield 24, 3) := by decide +kernel
theorem dX4_readPart_239 : decode cX4_readPart 239 = .ok (.iload_n 1, 1) := by decide +kernel
theorem dX4_readPart_240 : decode cX4_readPart 240 = .ok (.iload_n 3, 1) := by decide +kernel
theorem dX4_readPart_241 : decode cX4_readPart 241 = .ok (.iastore, 1) := by decide +kernel
theorem dX4_readPart_242 : decode cX4_readPart 242 = .ok (.return_, 1) := by decide +kernel
set_option maxRecDepth 20000 in
theorem ggX4_readHat_X4_readPart : GoodIn wsX4_readHat wsX4_readPart := goodIn_r _ [11, 5, 1, 4, 12, 13, 14, 10, 15, 6, 16, 17, 18, 19, 20, 21, 22, 23, 24, 25, 26, 27, 28, 29, 30, 31, 32, 33, 34, 35, 36, 37, 38, 39, 40, 41, 42, 43, 44, 45, 46, 47, 48, 49, 50, 51, 52, 53, 54, 55, 56, 57, 58, 59, 60, 61, 62, 63, 64, 65, 66, 67, 68, 69, 70, 71, 72, 73, 74, 75, 76, 77, 78, 79, 80, 81, 82, 83, 2, 3, 84, 85, 86, 87, 88, 89, 90, 91, 92, 93, 94, 95, 96, 97, 98, 99, 100, 101, 102, 103, 104, 105, 106, 107, 108, 109, 110, 111, 112, 113, 114] (by decide +kernel) (by decide +kernel)
set_option maxRecDepth 20000 in
theorem gX4_readHat_X4_readPart : GoodIn wsX4_readHat (wsV RX4 137 RX4 yX4_readPart wsX4_readPart) := goodIn_app (goodIn_of _ (by decide +kernel)) ggX4_readHat_X4_readPart
set_option maxRecDepth 20000 in
theorem ggX4_readHat_X4_blanks : GoodIn wsX4_readHat wsX4_blanks := goodIn_r _ [15, 1, 6, 16, 17, 18, 10, 19, 20, 87, 88, 89, 90, 91, 92, 93, 94, 95, 96, 97, 98, 99, 100, 101, 102, 103, 104, 105, 106, 107, 108, 109, 110, 111, 112, 113, 114] (by decide +kernel) (by decide +kernel)
set_option maxRecDepth 20000 in
theorem gX4_readHat_X4_blanks : GoodIn wsX4_readHat (wsV RX4 119 RX4 yX4_blanks wsX4_blanks) := goodIn_app (goodIn_of _ (by decide +kernel)) ggX4_readHat_X4_blanks
set_option maxRecDepth 20000 in
theorem ggX4_readHat_X4_byteAt : GoodIn wsX4_readHat wsX4_byteAt := goodIn_r _ [19, 6, 20, 87, 88, 89, 90, 91, 92, 93, 94, 95, 96, 97, 98, 99, 100, 101, 102, 103, 104, 105, 106, 107, 108, 109, 110, 111, 112, 113, 114] (by decide +kernel) (by decide +kernel)
set_option maxRecDepth 20000 in
theorem gX4_readHat_X4_byteAt : GoodIn wsX4_readHat (wsV RX4 91 RX4 yX4_byteAt wsX4_byteAt) := goodIn_app (goodIn_of _ (by decide +kernel)) ggX4_readHat_X4_byteAt
set_option maxRecDepth 20000 in
theorem ggX4_readHat_X4_wrong : GoodIn wsX4_readHat wsX4_wrong := goodIn_r _ [83, 2, 3, 87, 88, 89, 90, 91, 92, 93, 94, 95, 96, 97, 98, 99, 100, 101, 102, 103, 104, 105, 106, 107, 108, 109, 110, 111, 112, 113, 114] (by decide +kernel) (by decide +kernel)
set_option maxRecDepth 20000 in
theorem gX4_readHat_X4_wrong : GoodIn wsX4_readHat (wsV RX4 130 RX4 yX4_wrong wsX4_wrong) := goodIn_app (goodIn_of _ (by decide +kernel)) ggX4_readHat_X4_wrong
theorem dX4_readHat_0 : decode cX4_readHat 0 = .ok (.aload_n 0, 1) := by decide +kernel
theorem dX4_readHat_1 : decode cX4_readHat 1 = .ok (.iconst 0, 1) := by decide +kernel
theorem dX4_readHat_2 : decode cX4_readHat 2 = .ok (.putfield 88, 3) := by decide +kernel
theorem dX4_readHat_5 : decode cX4_readHat 5 = .ok (.aload_n 0, 1) := by decide +kernel
theorem dX4_readHat_6 : decode cX4_readHat 6 = .ok (.iconst 0, 1) := by decide +kernel
theorem dX4_readHat_7 : decode cX4_readHat 7 = .ok (.putfield 95, 3) := by decide +kernel
theorem dX4_readHat_10 : decode cX4_readHat 10 = .ok (.aload_n 0, 1) := by decide +kernel
theorem dX4_readHat_11 : decode cX4_readHat 11 = .ok (.iconst (-1), 1) := by decide +kernel
theorem dX4_readHat_12 : decode cX4_readHat 12 = .ok (.putfield 20, 3) := by decide +kernel
theorem dX4_readHat_15 : decode cX4_readHat 15 = .ok (.iconst 0, 1) := by decide +kernel
theorem dX4_readHat_16 : decode cX4_readHat 16 = .ok (.istore_n 1, 1) := by decide +kernel
theorem dX4_readHat_17 : decode cX4_readHat 17 = .ok (.iload_n 1, 1) := by decide +kernel
theorem dX4_readHat_18 : decode cX4_readHat 18 = .ok (.iconst 4, 1) := by decide +kernel
theorem dX4_readHat_19 : decode cX4_readHat 19 = .ok (.if_icmp .ge 23, 3) := by decide +kernel
theorem dX4_readHat_22 : decode cX4_readHat 22 = .ok (.aload_n 0, 1) := by decide +kernel
theorem dX4_readHat_23 : decode cX4_readHat 23 = .ok (.getfield 24, 3) := by decide +kernel
theorem dX4_readHat_26 : decode cX4_readHat 26 = .ok (.iload_n 1, 1) := by decide +kernel
theorem dX4_readHat_27 : decode cX4_readHat 27 = .ok (.iconst 0, 1) := by decide +kernel
theorem dX4_readHat_28 : decode cX4_readHat 28 = .ok (.iastore, 1) := by decide +kernel
theorem dX4_readHat_29 : decode cX4_readHat 29 = .ok (.aload_n 0, 1) := by decide +kernel
theorem dX4_readHat_30 : decode cX4_readHat 30 = .ok (.getfield 27, 3) := by decide +kernel
theorem dX4_readHat_33 : decode cX4_readHat 33 = .ok (.iload_n 1, 1) := by decide +kernel
theorem dX4_readHat_34 : decode cX4_readHat 34 = .ok (.iconst 0, 1) := by decide +kernel
theorem dX4_readHat_35 : decode cX4_readHat 35 = .ok (.bastore, 1) := by decide +kernel
theorem dX4_readHat_36 : decode cX4_readHat 36 = .ok (.iinc 1 1, 3) := by decide +kernel
theorem dX4_readHat_39 : decode cX4_readHat 39 = .ok (.goto (-22), 3) := by decide +kernel
theorem dX4_readHat_42 : decode cX4_readHat 42 = .ok (.aload_n 0, 1) := by decide +kernel
theorem dX4_readHat_43 : decode cX4_readHat 43 = .ok (.invokevirtual 137, 3) := by decide +kernel
theorem dX4_readHat_46 : decode cX4_readHat 46 = .ok (.aload_n 0, 1) := by decide +kernel
theorem dX4_readHat_47 : decode cX4_readHat 47 = .ok (.invokevirtual 119, 3) := by decide +kernel
theorem dX4_readHat_50 : decode cX4_readHat 50 = .ok (.aload_n 0, 1) := by decide +kernel
theorem dX4_readHat_51 : decode cX4_readHat 51 = .ok (.getfield 95, 3) := by decide +kernel
theorem dX4_readHat_54 : decode cX4_readHat 54 = .ok (.ifCond .ne 37, 3) := by decide +kernel
theorem dX4_readHat_57 : decode cX4_readHat 57 = .ok (.aload_n 0, 1) := by decide +kernel
theorem dX4_readHat_58 : decode cX4_readHat 58 = .ok (.aload_n 0, 1) := by decide +kernel
theorem dX4_readHat_59 : decode cX4_readHat 59 = .ok (.getfield 88, 3) := by decide +kernel
theorem dX4_readHat_62 : decode cX4_readHat 62 = .ok (.invokevirtual 91, 3) := by decide +kernel
theorem dX4_readHat_65 : decode cX4_readHat 65 = .ok (.bipush 44, 2) := by decide +kernel
theorem dX4_readHat_67 : decode cX4_readHat 67 = .ok (.if_icmp .ne 24, 3) := by decide +kernel
theorem dX4_readHat_70 : decode cX4_readHat 70 = .ok (.aload_n 0, 1) := by decide +kernel
theorem dX4_readHat_71 : decode cX4_readHat 71 = .ok (.dup, 1) := by decide +kernel
theorem dX4_readHat_72 : decode cX4_readHat 72 = .ok (.getfield 88, 3) := by decide +kernel
theorem dX4_readHat_75 : decode cX4_readHat 75 = .ok (.iconst 1, 1) := by decide +kernel
theorem dX4_readHat_76 : decode cX4_readHat 76 = .ok (.iadd, 1) := by decide +kernel
theorem dX4_readHat_77 : decode cX4_readHat 77 = .ok (.putfield 88, 3) := by decide +kernel
theorem dX4_readHat_80 : decode cX4_readHat 80 = .ok (.aload_n 0, 1) := by decide +kernel
theorem dX4_readHat_81 : decode cX4_readHat 81 = .ok (.invokevirtual 137, 3) := by decide +kernel
theorem dX4_readHat_84 : decode cX4_readHat 84 = .ok (.aload_n 0, 1) := by decide +kernel
theorem dX4_readHat_85 : decode cX4_readHat 85 = .ok (.invokevirtual 119, 3) := by decide +kernel
theorem dX4_readHat_88 : decode cX4_readHat 88 = .ok (.goto (-38), 3) := by decide +kernel
theorem dX4_readHat_91 : decode cX4_readHat 91 = .ok (.aload_n 0, 1) := by decide +kernel
theorem dX4_readHat_92 : decode cX4_readHat 92 = .ok (.getfield 88, 3) := by decide +kernel
theorem dX4_readHat_95 : decode cX4_readHat 95 = .ok (.aload_n 0, 1) := by decide +kernel
theorem dX4_readHat_96 : decode cX4_readHat 96 = .ok (.getfield 85, 3) := by decide +kernel
theorem dX4_readHat_99 : decode cX4_readHat 99 = .ok (.if_icmp .ge 12, 3) := by decide +kernel
theorem dX4_readHat_102 : decode cX4_readHat 102 = .ok (.aload_n 0, 1) := by decide +kernel
theorem dX4_readHat_103 : decode cX4_readHat 103 = .ok (.iconst 1, 1) := by decide +kernel
theorem dX4_readHat_104 : decode cX4_readHat 104 = .ok (.aload_n 0, 1) := by decide +kernel
theorem dX4_readHat_105 : decode cX4_readHat 105 = .ok (.getfield 88, 3) := by decide +kernel
theorem dX4_readHat_108 : decode cX4_readHat 108 = .ok (.invokevirtual 130, 3) := by decide +kernel
theorem dX4_readHat_111 : decode cX4_readHat 111 = .ok (.aload_n 0, 1) := by decide +kernel
theorem dX4_readHat_112 : decode cX4_readHat 112 = .ok (.getfield 27, 3) := by decide +kernel
theorem dX4_readHat_115 : decode cX4_readHat 115 = .ok (.iconst 0, 1) := by decide +kernel
theorem dX4_readHat_116 : decode cX4_readHat 116 = .ok (.baload, 1) := by decide +kernel
theorem dX4_readHat_117 : decode cX4_readHat 117 = .ok (.ifCond .eq 12, 3) := by decide +kernel
theorem dX4_readHat_120 : decode cX4_readHat 120 = .ok (.aload_n 0, 1) := by decide +kernel
theorem dX4_readHat_121 : decode cX4_readHat 121 = .ok (.getfield 27, 3) := by decide +kernel
theorem dX4_readHat_124 : decode cX4_readHat 124 = .ok (.iconst 3, 1) := by decide +kernel
theorem dX4_readHat_125 : decode cX4_readHat 125 = .ok (.baload, 1) := by decide +kernel
theorem dX4_readHat_126 : decode cX4_readHat 126 = .ok (.ifCond .ne 12, 3) := by decide +kernel
theorem dX4_readHat_129 : decode cX4_readHat 129 = .ok (.aload_n 0, 1) := by decide +kernel
theorem dX4_readHat_130 : decode cX4_readHat 130 = .ok (.iconst 3, 1) := by decide +kernel
theorem dX4_readHat_131 : decode cX4_readHat 131 = .ok (.aload_n 0, 1) := by decide +kernel
theorem dX4_readHat_132 : decode cX4_readHat 132 = .ok (.getfield 85, 3) := by decide +kernel
theorem dX4_readHat_135 : decode cX4_readHat 135 = .ok (.invokevirtual 130, 3) := by decide +kernel
theorem dX4_readHat_138 : decode cX4_readHat 138 = .ok (.return_, 1) := by decide +kernel
set_option maxRecDepth 20000 in
theorem ggX4_order_X4_bad : GoodIn wsX4_order wsX4_bad := goodIn_r _ [15, 1, 108, 109, 110, 111, 112, 113, 114, 115, 116, 117, 118, 119, 120, 121, 122, 123, 124, 125, 126, 127, 128, 129, 130, 131, 132, 133, 134, 135] (by decide +kernel) (by decide +kernel)
set_option maxRecDepth 20000 in
theorem gX4_order_X4_bad : GoodIn wsX4_order (wsV RX4 64 RX4 yX4_bad wsX4_bad) := goodIn_app (goodIn_of _ (by decide +kernel)) ggX4_order_X4_bad
set_option maxRecDepth 20000 in
theorem ggX4_order_X4_readHat : GoodIn wsX4_order wsX4_readHat := goodIn_r _ [19, 20, 8, 21, 10, 22, 7, 23, 24, 25, 14, 26, 27, 28, 29, 30, 31, 32, 33, 34, 35, 36, 37, 38, 39, 40, 41, 42, 43, 44, 45, 46, 47, 48, 49, 50, 51, 52, 53, 54, 55, 56, 57, 58, 59, 60, 61, 62, 63, 64, 65, 66, 67, 68, 69, 70, 71, 72, 73, 74, 75, 76, 77, 78, 79, 80, 81, 82, 83, 84, 85, 86, 87, 88, 89, 90, 91, 92, 93, 94, 95, 96, 97, 98, 99, 100, 101, 108, 109, 110, 111, 112, 113, 114, 115, 116, 117, 118, 119, 120, 121, 122, 123, 124, 125, 126, 127, 128, 129, 130, 131, 132, 133, 134, 135] (by decide +kernel) (by decide +kernel)
set_option maxRecDepth 20000 in
theorem gX4_order_X4_readHat : GoodIn wsX4_order (wsV RX4 144 RX4 yX4_readHat wsX4_readHat) := goodIn_app (goodIn_of _ (by decide +kernel)) ggX4_order_X4_readHat
set_option maxRecDepth 20000 in
theorem ggX4_order_X4_misfitOf : GoodIn wsX4_order wsX4_misfitOf := goodIn_r _ [105, 106, 107, 108, 109, 110, 111, 112, 113, 114, 115, 116, 117, 118, 119, 120, 121, 122, 123, 124, 125, 126, 127, 128, 129, 130, 131, 132, 133, 134, 135] (by decide +kernel) (by decide +kernel)
set_option maxRecDepth 20000 in
theorem gX4_order_X4_misfitOf : GoodIn wsX4_order (wsV RX4 78 RX4 yX4_misfitOf wsX4_misfitOf) := goodIn_app (goodIn_of _ (by decide +kernel)) ggX4_order_X4_misfitOf
theorem dX4_order_0 : decode cX4_order 0 = .ok (.aload_n 0, 1) := by decide +kernel
theorem dX4_order_1 : decode cX4_order 1 = .ok (.iconst 0, 1) := by decide +kernel
theorem dX4_order_2 : decode cX4_order 2 = .ok (.putfield 61, 3) := by decide +kernel
theorem dX4_order_5 : decode cX4_order 5 = .ok (.aload_n 0, 1) := by decide +kernel
theorem dX4_order_6 : decode cX4_order 6 = .ok (.iload_n 1, 1) := by decide +kernel
theorem dX4_order_7 : decode cX4_order 7 = .ok (.ifCond .lt 32, 3) := by decide +kernel
theorem dX4_order_10 : decode cX4_order 10 = .ok (.iload_n 1, 1) := by decide +kernel
theorem dX4_order_11 : decode cX4_order 11 = .ok (.aload_n 0, 1) := by decide +kernel
theorem dX4_order_12 : decode cX4_order 12 = .ok (.getfield 82, 3) := by decide +kernel
theorem dX4_order_15 : decode cX4_order 15 = .ok (.if_icmp .gt 24, 3) := by decide +kernel
theorem dX4_order_18 : decode cX4_order 18 = .ok (.iload_n 2, 1) := by decide +kernel
theorem dX4_order_19 : decode cX4_order 19 = .ok (.ifCond .lt 20, 3) := by decide +kernel
theorem dX4_order_22 : decode cX4_order 22 = .ok (.iload_n 2, 1) := by decide +kernel
theorem dX4_order_23 : decode cX4_order 23 = .ok (.ldc 140, 2) := by decide +kernel
theorem dX4_order_25 : decode cX4_order 25 = .ok (.if_icmp .gt 14, 3) := by decide +kernel
theorem dX4_order_28 : decode cX4_order 28 = .ok (.iload_n 3, 1) := by decide +kernel
theorem dX4_order_29 : decode cX4_order 29 = .ok (.iconst 1, 1) := by decide +kernel
theorem dX4_order_30 : decode cX4_order 30 = .ok (.if_icmp .lt 9, 3) := by decide +kernel
theorem dX4_order_33 : decode cX4_order 33 = .ok (.iload_n 3, 1) := by decide +kernel
theorem dX4_order_34 : decode cX4_order 34 = .ok (.bipush 9, 2) := by decide +kernel
theorem dX4_order_36 : decode cX4_order 36 = .ok (.if_icmp .le 7, 3) := by decide +kernel
theorem dX4_order_39 : decode cX4_order 39 = .ok (.iconst 1, 1) := by decide +kernel
theorem dX4_order_40 : decode cX4_order 40 = .ok (.goto 4, 3) := by decide +kernel
theorem dX4_order_43 : decode cX4_order 43 = .ok (.iconst 0, 1) := by decide +kernel
theorem dX4_order_44 : decode cX4_order 44 = .ok (.iconst 1, 1) := by decide +kernel
theorem dX4_order_45 : decode cX4_order 45 = .ok (.invokevirtual 64, 3) := by decide +kernel
theorem dX4_order_48 : decode cX4_order 48 = .ok (.ifCond .eq 5, 3) := by decide +kernel
theorem dX4_order_51 : decode cX4_order 51 = .ok (.iconst 0, 1) := by decide +kernel
theorem dX4_order_52 : decode cX4_order 52 = .ok (.ireturn, 1) := by decide +kernel
theorem dX4_order_53 : decode cX4_order 53 = .ok (.aload_n 0, 1) := by decide +kernel
theorem dX4_order_54 : decode cX4_order 54 = .ok (.getfield 68, 3) := by decide +kernel
theorem dX4_order_57 : decode cX4_order 57 = .ok (.bipush 12, 2) := by decide +kernel
theorem dX4_order_59 : decode cX4_order 59 = .ok (.if_icmp .ge 5, 3) := by decide +kernel
theorem dX4_order_62 : decode cX4_order 62 = .ok (.iconst (-1), 1) := by decide +kernel
theorem dX4_order_63 : decode cX4_order 63 = .ok (.ireturn, 1) := by decide +kernel
theorem dX4_order_64 : decode cX4_order 64 = .ok (.aload_n 0, 1) := by decide +kernel
theorem dX4_order_65 : decode cX4_order 65 = .ok (.getfield 71, 3) := by decide +kernel
theorem dX4_order_68 : decode cX4_order 68 = .ok (.ifCond .ne 6, 3) := by decide +kernel
theorem dX4_order_71 : decode cX4_order 71 = .ok (.bipush (-2), 2) := by decide +kernel
theorem dX4_order_73 : decode cX4_order 73 = .ok (.ireturn, 1) := by decide +kernel
theorem dX4_order_74 : decode cX4_order 74 = .ok (.aload_n 0, 1) := by decide +kernel
theorem dX4_order_75 : decode cX4_order 75 = .ok (.getfield 141, 3) := by decide +kernel
theorem dX4_order_78 : decode cX4_order 78 = .ok (.bipush 60, 2) := by decide +kernel
theorem dX4_order_80 : decode cX4_order 80 = .ok (.if_icmp .ne 6, 3) := by decide +kernel
theorem dX4_order_83 : decode cX4_order 83 = .ok (.bipush (-3), 2) := by decide +kernel
theorem dX4_order_85 : decode cX4_order 85 = .ok (.ireturn, 1) := by decide +kernel
theorem dX4_order_86 : decode cX4_order 86 = .ok (.aload_n 0, 1) := by decide +kernel
theorem dX4_order_87 : decode cX4_order 87 = .ok (.iload_n 1, 1) := by decide +kernel
theorem dX4_order_88 : decode cX4_order 88 = .ok (.putfield 85, 3) := by decide +kernel
theorem dX4_order_91 : decode cX4_order 91 = .ok (.aload_n 0, 1) := by decide +kernel
theorem dX4_order_92 : decode cX4_order 92 = .ok (.iconst 0, 1) := by decide +kernel
theorem dX4_order_93 : decode cX4_order 93 = .ok (.putfield 82, 3) := by decide +kernel
theorem dX4_order_96 : decode cX4_order 96 = .ok (.aload_n 0, 1) := by decide +kernel
theorem dX4_order_97 : decode cX4_order 97 = .ok (.iconst 0, 1) := by decide +kernel
theorem dX4_order_98 : decode cX4_order 98 = .ok (.putfield 68, 3) := by decide +kernel
theorem dX4_order_101 : decode cX4_order 101 = .ok (.aload_n 0, 1) := by decide +kernel
theorem dX4_order_102 : decode cX4_order 102 = .ok (.invokevirtual 144, 3) := by decide +kernel
theorem dX4_order_105 : decode cX4_order 105 = .ok (.aload_n 0, 1) := by decide +kernel
theorem dX4_order_106 : decode cX4_order 106 = .ok (.getfield 95, 3) := by decide +kernel
theorem dX4_order_109 : decode cX4_order 109 = .ok (.ifCond .le 11, 3) := by decide +kernel
theorem dX4_order_112 : decode cX4_order 112 = .ok (.aload_n 0, 1) := by decide +kernel
theorem dX4_order_113 : decode cX4_order 113 = .ok (.getfield 95, 3) := by decide +kernel
theorem dX4_order_116 : decode cX4_order 116 = .ok (.bipush 10, 2) := by decide +kernel
theorem dX4_order_118 : decode cX4_order 118 = .ok (.isub, 1) := by decide +kernel
theorem dX4_order_119 : decode cX4_order 119 = .ok (.ireturn, 1) := by decide +kernel
theorem dX4_order_120 : decode cX4_order 120 = .ok (.bipush 12, 2) := by decide +kernel
theorem dX4_order_122 : decode cX4_order 122 = .ok (.aload_n 0, 1) := by decide +kernel
theorem dX4_order_123 : decode cX4_order 123 = .ok (.getfield 141, 3) := by decide +kernel
theorem dX4_order_126 : decode cX4_order 126 = .ok (.imul, 1) := by decide +kernel
theorem dX4_order_127 : decode cX4_order 127 = .ok (.istore 4, 2) := by decide +kernel
theorem dX4_order_129 : decode cX4_order 129 = .ok (.iconst (-1), 1) := by decide +kernel
theorem dX4_order_130 : decode cX4_order 130 = .ok (.istore 5, 2) := by decide +kernel
theorem dX4_order_132 : decode cX4_order 132 = .ok (.iconst 0, 1) := by decide +kernel
theorem dX4_order_133 : decode cX4_order 133 = .ok (.istore 6, 2) := by decide +kernel
theorem dX4_order_135 : decode cX4_order 135 = .ok (.iload 6, 2) := by decide +kernel
theorem dX4_order_137 : decode cX4_order 137 = .ok (.bipush 12, 2) := by decide +kernel
theorem dX4_order_139 : decode cX4_order 139 = .ok (.if_icmp .ge 76, 3) := by decide +kernel
theorem dX4_order_142 : decode cX4_order 142 = .ok (.iconst 0, 1) := by decide +kernel
theorem dX4_order_143 : decode cX4_order 143 = .ok (.istore 7, 2) := by decide +kernel
theorem dX4_order_145 : decode cX4_order 145 = .ok (.iload 7, 2) := by decide +kernel
theorem dX4_order_147 : decode cX4_order 147 = .ok (.aload_n 0, 1) := by decide +kernel
theorem dX4_order_148 : decode cX4_order 148 = .ok (.getfield 71, 3) := by decide +kernel
theorem dX4_order_151 : decode cX4_order 151 = .ok (.if_icmp .ge 58, 3) := by decide +kernel
theorem dX4_order_154 : decode cX4_order 154 = .ok (.aload_n 0, 1) := by decide +kernel
theorem dX4_order_155 : decode cX4_order 155 = .ok (.iload 7, 2) := by decide +kernel
theorem dX4_order_157 : decode cX4_order 157 = .ok (.iload 6, 2) := by decide +kernel
theorem dX4_order_159 : decode cX4_order 159 = .ok (.invokevirtual 78, 3) := by decide +kernel
theorem dX4_order_162 : decode cX4_order 162 = .ok (.istore 8, 2) := by decide +kernel
theorem dX4_order_164 : decode cX4_order 164 = .ok (.iload 5, 2) := by decide +kernel
theorem dX4_order_166 : decode cX4_order 166 = .ok (.ifCond .lt 13, 3) := by decide +kernel
theorem dX4_order_169 : decode cX4_order 169 = .ok (.iload 8, 2) := by decide +kernel
theorem dX4_order_171 : decode cX4_order 171 = .ok (.iload 5, 2) := by decide +kernel
theorem dX4_order_173 : decode cX4_order 173 = .ok (.if_icmp .lt 6, 3) := by decide +kernel
theorem dX4_order_176 : decode cX4_order 176 = .ok (.goto 27, 3) := by decide +kernel
theorem dX4_order_179 : decode cX4_order 179 = .ok (.iload 8, 2) := by decide +kernel
theorem dX4_order_181 : decode cX4_order 181 = .ok (.istore 5, 2) := by decide +kernel
theorem dX4_order_183 : decode cX4_order 183 = .ok (.aload_n 0, 1) := by decide +kernel
theorem dX4_order_184 : decode cX4_order 184 = .ok (.getfield 40, 3) := by decide +kernel
theorem dX4_order_187 : decode cX4_order 187 = .ok (.iload 4, 2) := by decide +kernel
theorem dX4_order_189 : decode cX4_order 189 = .ok (.iload 7, 2) := by decide +kernel
theorem dX4_order_191 : decode cX4_order 191 = .ok (.iastore, 1) := by decide +kernel
theorem dX4_order_192 : decode cX4_order 192 = .ok (.aload_n 0, 1) := by decide +kernel
theorem dX4_order_193 : decode cX4_order 193 = .ok (.getfield 40, 3) := by decide +kernel
theorem dX4_order_196 : decode cX4_order 196 = .ok (.iload 4, 2) := by decide +kernel
theorem dX4_order_198 : decode cX4_order 198 = .ok (.iconst 1, 1) := by decide +kernel
theorem dX4_order_199 : decode cX4_order 199 = .ok (.iadd, 1) := by decide +kernel
theorem dX4_order_200 : decode cX4_order 200 = .ok (.iload 6, 2) := by decide +kernel
theorem dX4_order_202 : decode cX4_order 202 = .ok (.iastore, 1) := by decide +kernel
theorem dX4_order_203 : decode cX4_order 203 = .ok (.iinc 7 1, 3) := by decide +kernel
theorem dX4_order_206 : decode cX4_order 206 = .ok (.goto (-61), 3) := by decide +kernel
theorem dX4_order_209 : decode cX4_order 209 = .ok (.iinc 6 1, 3) := by decide +kernel
theorem dX4_order_212 : decode cX4_order 212 = .ok (.goto (-77), 3) := by decide +kernel
theorem dX4_order_215 : decode cX4_order 215 = .ok (.aload_n 0, 1) := by decide +kernel
theorem dX4_order_216 : decode cX4_order 216 = .ok (.getfield 40, 3) := by decide +kernel
theorem dX4_order_219 : decode cX4_order 219 = .ok (.iload 4, 2) := by decide +kernel
theorem dX4_order_221 : decode cX4_order 221 = .ok (.iconst 2, 1) := by decide +kernel
theorem dX4_order_222 : decode cX4_order 222 = .ok (.iadd, 1) := by decide +kernel
theorem dX4_order_223 : decode cX4_order 223 = .ok (.iload 5, 2) := by decide +kernel
theorem dX4_order_225 : decode cX4_order 225 = .ok (.iastore, 1) := by decide +kernel
theorem dX4_order_226 : decode cX4_order 226 = .ok (.aload_n 0, 1) := by decide +kernel
theorem dX4_order_227 : decode cX4_order 227 = .ok (.getfield 40, 3) := by decide +kernel
theorem dX4_order_230 : decode cX4_order 230 = .ok (.iload 4, 2) := by decide +kernel
theorem dX4_order_232 : decode cX4_order 232 = .ok (.iconst 3, 1) := by decide +kernel
theorem dX4_order_233 : decode cX4_order 233 = .ok (.iadd, 1) := by decide +kernel
theorem dX4_order_234 : decode cX4_order 234 = .ok (.iconst 4, 1) := by decide +kernel
theorem dX4_order_235 : decode cX4_order 235 = .ok (.aload_n 0, 1) := by decide +kernel
theorem dX4_order_236 : decode cX4_order 236 = .ok (.getfield 24, 3) := by decide +kernel
theorem dX4_order_239 : decode cX4_order 239 = .ok (.iconst 0, 1) := by decide +kernel
theorem dX4_order_240 : decode cX4_order 240 = .ok (.iaload, 1) := by decide +kernel
theorem dX4_order_241 : decode cX4_order 241 = .ok (.imul, 1) := by decide +kernel
theorem dX4_order_242 : decode cX4_order 242 = .ok (.aload_n 0, 1) := by decide +kernel
theorem dX4_order_243 : decode cX4_order 243 = .ok (.getfield 24, 3) := by decide +kernel
theorem dX4_order_246 : decode cX4_order 246 = .ok (.iconst 3, 1) := by decide +kernel
theorem dX4_order_247 : decode cX4_order 247 = .ok (.iaload, 1) := by decide +kernel
theorem dX4_order_248 : decode cX4_order 248 = .ok (.imul, 1) := by decide +kernel
theorem dX4_order_249 : decode cX4_order 249 = .ok (.iconst 3, 1) := by decide +kernel
theorem dX4_order_250 : decode cX4_order 250 = .ok (.aload_n 0, 1) := by decide +kernel
theorem dX4_order_251 : decode cX4_order 251 = .ok (.getfield 24, 3) := by decide +kernel
theorem dX4_order_254 : decode cX4_order 254 = .ok (.iconst 1, 1) := by decide +kernel
theorem dX4_order_255 : decode cX4_order 255 = .ok (.iaload, 1) := by decide +kernel
theorem dX4_order_256 : decode cX4_order 256 = .ok (.imul, 1) := by decide +kernel
theorem dX4_order_257 : decode cX4_order 257 = .ok (.aload_n 0, 1) := by decide +kernel
theorem dX4_order_258 : decode cX4_order 258 = .ok (.getfield 24, 3) := by decide +kernel
theorem dX4_order_261 : decode cX4_order 261 = .ok (.iconst 3, 1) := by decide +kernel
theorem dX4_order_262 : decode cX4_order 262 = .ok (.iaload, 1) := by decide +kernel
theorem dX4_order_263 : decode cX4_order 263 = .ok (.imul, 1) := by decide +kernel
theorem dX4_order_264 : decode cX4_order 264 = .ok (.iadd, 1) := by decide +kernel
theorem dX4_order_265 : decode cX4_order 265 = .ok (.bipush 10, 2) := by decide +kernel
theorem dX4_order_267 : decode cX4_order 267 = .ok (.aload_n 0, 1) := by decide +kernel
theorem dX4_order_268 : decode cX4_order 268 = .ok (.getfield 24, 3) := by decide +kernel
theorem dX4_order_271 : decode cX4_order 271 = .ok (.iconst 2, 1) := by decide +kernel
theorem dX4_order_272 : decode cX4_order 272 = .ok (.iaload, 1) := by decide +kernel
theorem dX4_order_273 : decode cX4_order 273 = .ok (.imul, 1) := by decide +kernel
theorem dX4_order_274 : decode cX4_order 274 = .ok (.iadd, 1) := by decide +kernel
theorem dX4_order_275 : decode cX4_order 275 = .ok (.iastore, 1) := by decide +kernel
theorem dX4_order_276 : decode cX4_order 276 = .ok (.aload_n 0, 1) := by decide +kernel
theorem dX4_order_277 : decode cX4_order 277 = .ok (.getfield 40, 3) := by decide +kernel
theorem dX4_order_280 : decode cX4_order 280 = .ok (.iload 4, 2) := by decide +kernel
theorem dX4_order_282 : decode cX4_order 282 = .ok (.iconst 4, 1) := by decide +kernel
theorem dX4_order_283 : decode cX4_order 283 = .ok (.iadd, 1) := by decide +kernel
theorem dX4_order_284 : decode cX4_order 284 = .ok (.bipush 6, 2) := by decide +kernel
theorem dX4_order_286 : decode cX4_order 286 = .ok (.aload_n 0, 1) := by decide +kernel
theorem dX4_order_287 : decode cX4_order 287 = .ok (.getfield 24, 3) := by decide +kernel
theorem dX4_order_290 : decode cX4_order 290 = .ok (.iconst 3, 1) := by decide +kernel
theorem dX4_order_291 : decode cX4_order 291 = .ok (.iaload, 1) := by decide +kernel
theorem dX4_order_292 : decode cX4_order 292 = .ok (.imul, 1) := by decide +kernel
theorem dX4_order_293 : decode cX4_order 293 = .ok (.aload_n 0, 1) := by decide +kernel
theorem dX4_order_294 : decode cX4_order 294 = .ok (.getfield 24, 3) := by decide +kernel
theorem dX4_order_297 : decode cX4_order 297 = .ok (.iconst 1, 1) := by decide +kernel
theorem dX4_order_298 : decode cX4_order 298 = .ok (.iaload, 1) := by decide +kernel
theorem dX4_order_299 : decode cX4_order 299 = .ok (.iadd, 1) := by decide +kernel
theorem dX4_order_300 : decode cX4_order 300 = .ok (.iastore, 1) := by decide +kernel
theorem dX4_order_301 : decode cX4_order 301 = .ok (.aload_n 0, 1) := by decide +kernel
theorem dX4_order_302 : decode cX4_order 302 = .ok (.getfield 40, 3) := by decide +kernel
theorem dX4_order_305 : decode cX4_order 305 = .ok (.iload 4, 2) := by decide +kernel
theorem dX4_order_307 : decode cX4_order 307 = .ok (.iconst 5, 1) := by decide +kernel
theorem dX4_order_308 : decode cX4_order 308 = .ok (.iadd, 1) := by decide +kernel
theorem dX4_order_309 : decode cX4_order 309 = .ok (.bipush 10, 2) := by decide +kernel
theorem dX4_order_311 : decode cX4_order 311 = .ok (.aload_n 0, 1) := by decide +kernel
theorem dX4_order_312 : decode cX4_order 312 = .ok (.getfield 24, 3) := by decide +kernel
theorem dX4_order_315 : decode cX4_order 315 = .ok (.iconst 0, 1) := by decide +kernel
theorem dX4_order_316 : decode cX4_order 316 = .ok (.iaload, 1) := by decide +kernel
theorem dX4_order_317 : decode cX4_order 317 = .ok (.iadd, 1) := by decide +kernel
theorem dX4_order_318 : decode cX4_order 318 = .ok (.bipush 20, 2) := by decide +kernel
theorem dX4_order_320 : decode cX4_order 320 = .ok (.aload_n 0, 1) := by decide +kernel
theorem dX4_order_321 : decode cX4_order 321 = .ok (.getfield 24, 3) := by decide +kernel
theorem dX4_order_324 : decode cX4_order 324 = .ok (.iconst 3, 1) := by decide +kernel
theorem dX4_order_325 : decode cX4_order 325 = .ok (.iaload, 1) := by decide +kernel
theorem dX4_order_326 : decode cX4_order 326 = .ok (.imul, 1) := by decide +kernel
theorem dX4_order_327 : decode cX4_order 327 = .ok (.iadd, 1) := by decide +kernel
theorem dX4_order_328 : decode cX4_order 328 = .ok (.iastore, 1) := by decide +kernel
theorem dX4_order_329 : decode cX4_order 329 = .ok (.aload_n 0, 1) := by decide +kernel
theorem dX4_order_330 : decode cX4_order 330 = .ok (.getfield 40, 3) := by decide +kernel
theorem dX4_order_333 : decode cX4_order 333 = .ok (.iload 4, 2) := by decide +kernel
theorem dX4_order_335 : decode cX4_order 335 = .ok (.bipush 6, 2) := by decide +kernel
theorem dX4_order_337 : decode cX4_order 337 = .ok (.iadd, 1) := by decide +kernel
theorem dX4_order_338 : decode cX4_order 338 = .ok (.iload_n 2, 1) := by decide +kernel
theorem dX4_order_339 : decode cX4_order 339 = .ok (.iastore, 1) := by decide +kernel
theorem dX4_order_340 : decode cX4_order 340 = .ok (.aload_n 0, 1) := by decide +kernel
theorem dX4_order_341 : decode cX4_order 341 = .ok (.getfield 40, 3) := by decide +kernel
theorem dX4_order_344 : decode cX4_order 344 = .ok (.iload 4, 2) := by decide +kernel
theorem dX4_order_346 : decode cX4_order 346 = .ok (.bipush 7, 2) := by decide +kernel
theorem dX4_order_348 : decode cX4_order 348 = .ok (.iadd, 1) := by decide +kernel
theorem dX4_order_349 : decode cX4_order 349 = .ok (.iload_n 3, 1) := by decide +kernel
theorem dX4_order_350 : decode cX4_order 350 = .ok (.iastore, 1) := by decide +kernel
theorem dX4_order_351 : decode cX4_order 351 = .ok (.aload_n 0, 1) := by decide +kernel
theorem dX4_order_352 : decode cX4_order 352 = .ok (.getfield 40, 3) := by decide +kernel
theorem dX4_order_355 : decode cX4_order 355 = .ok (.iload 4, 2) := by decide +kernel
theorem dX4_order_357 : decode cX4_order 357 = .ok (.bipush 8, 2) := by decide +kernel
theorem dX4_order_359 : decode cX4_order 359 = .ok (.iadd, 1) := by decide +kernel
theorem dX4_order_360 : decode cX4_order 360 = .ok (.iconst 0, 1) := by decide +kernel
theorem dX4_order_361 : decode cX4_order 361 = .ok (.iastore, 1) := by decide +kernel
theorem dX4_order_362 : decode cX4_order 362 = .ok (.bipush 9, 2) := by decide +kernel
theorem dX4_order_364 : decode cX4_order 364 = .ok (.istore 6, 2) := by decide +kernel
theorem dX4_order_366 : decode cX4_order 366 = .ok (.iload 6, 2) := by decide +kernel
theorem dX4_order_368 : decode cX4_order 368 = .ok (.bipush 12, 2) := by decide +kernel
theorem dX4_order_370 : decode cX4_order 370 = .ok (.if_icmp .ge 20, 3) := by decide +kernel
theorem dX4_order_373 : decode cX4_order 373 = .ok (.aload_n 0, 1) := by decide +kernel
theorem dX4_order_374 : decode cX4_order 374 = .ok (.getfield 40, 3) := by decide +kernel
theorem dX4_order_377 : decode cX4_order 377 = .ok (.iload 4, 2) := by decide +kernel
theorem dX4_order_379 : decode cX4_order 379 = .ok (.iload 6, 2) := by decide +kernel
theorem dX4_order_381 : decode cX4_order 381 = .ok (.iadd, 1) := by decide +kernel
theorem dX4_order_382 : decode cX4_order 382 = .ok (.iconst (-1), 1) := by decide +kernel
theorem dX4_order_383 : decode cX4_order 383 = .ok (.iastore, 1) := by decide +kernel
theorem dX4_order_384 : decode cX4_order 384 = .ok (.iinc 6 1, 3) := by decide +kernel
theorem dX4_order_387 : decode cX4_order 387 = .ok (.goto (-21), 3) := by decide +kernel
theorem dX4_order_390 : decode cX4_order 390 = .ok (.aload_n 0, 1) := by decide +kernel
theorem dX4_order_391 : decode cX4_order 391 = .ok (.dup, 1) := by decide +kernel
theorem dX4_order_392 : decode cX4_order 392 = .ok (.getfield 141, 3) := by decide +kernel
theorem dX4_order_395 : decode cX4_order 395 = .ok (.iconst 1, 1) := by decide +kernel
theorem dX4_order_396 : decode cX4_order 396 = .ok (.iadd, 1) := by decide +kernel
theorem dX4_order_397 : decode cX4_order 397 = .ok (.putfield 141, 3) := by decide +kernel
theorem dX4_order_400 : decode cX4_order 400 = .ok (.aload_n 0, 1) := by decide +kernel
theorem dX4_order_401 : decode cX4_order 401 = .ok (.getfield 141, 3) := by decide +kernel
theorem dX4_order_404 : decode cX4_order 404 = .ok (.iconst 1, 1) := by decide +kernel
theorem dX4_order_405 : decode cX4_order 405 = .ok (.isub, 1) := by decide +kernel
theorem dX4_order_406 : decode cX4_order 406 = .ok (.ireturn, 1) := by decide +kernel
theorem dX4_fault_0 : decode cX4_fault 0 = .ok (.aload_n 0, 1) := by decide +kernel
theorem dX4_fault_1 : decode cX4_fault 1 = .ok (.iconst 0, 1) := by decide +kernel
theorem dX4_fault_2 : decode cX4_fault 2 = .ok (.putfield 61, 3) := by decide +kernel
theorem dX4_fault_5 : decode cX4_fault 5 = .ok (.aload_n 0, 1) := by decide +kernel
theorem dX4_fault_6 : decode cX4_fault 6 = .ok (.getfield 20, 3) := by decide +kernel
theorem dX4_fault_9 : decode cX4_fault 9 = .ok (.ireturn, 1) := by decide +kernel
theorem dX4_isOrder_0 : decode cX4_isOrder 0 = .ok (.aload_n 0, 1) := by decide +kernel
theorem dX4_isOrder_1 : decode cX4_isOrder 1 = .ok (.iload_n 1, 1) := by decide +kernel
theorem dX4_isOrder_2 : decode cX4_isOrder 2 = .ok (.ifCond .lt 11, 3) := by decide +kernel
theorem dX4_isOrder_5 : decode cX4_isOrder 5 = .ok (.iload_n 1, 1) := by decide +kernel
theorem dX4_isOrder_6 : decode cX4_isOrder 6 = .ok (.aload_n 0, 1) := by decide +kernel
theorem dX4_isOrder_7 : decode cX4_isOrder 7 = .ok (.getfield 141, 3) := by decide +kernel
theorem dX4_isOrder_10 : decode cX4_isOrder 10 = .ok (.if_icmp .lt 7, 3) := by decide +kernel
theorem dX4_isOrder_13 : decode cX4_isOrder 13 = .ok (.iconst 1, 1) := by decide +kernel
theorem dX4_isOrder_14 : decode cX4_isOrder 14 = .ok (.goto 4, 3) := by decide +kernel
theorem dX4_isOrder_17 : decode cX4_isOrder 17 = .ok (.iconst 0, 1) := by decide +kernel
theorem dX4_isOrder_18 : decode cX4_isOrder 18 = .ok (.putfield 61, 3) := by decide +kernel
theorem dX4_isOrder_21 : decode cX4_isOrder 21 = .ok (.aload_n 0, 1) := by decide +kernel
theorem dX4_isOrder_22 : decode cX4_isOrder 22 = .ok (.getfield 61, 3) := by decide +kernel
theorem dX4_isOrder_25 : decode cX4_isOrder 25 = .ok (.ifCond .ne 7, 3) := by decide +kernel
theorem dX4_isOrder_28 : decode cX4_isOrder 28 = .ok (.iconst 1, 1) := by decide +kernel
theorem dX4_isOrder_29 : decode cX4_isOrder 29 = .ok (.goto 4, 3) := by decide +kernel
theorem dX4_isOrder_32 : decode cX4_isOrder 32 = .ok (.iconst 0, 1) := by decide +kernel
theorem dX4_isOrder_33 : decode cX4_isOrder 33 = .ok (.ireturn, 1) := by decide +kernel
theorem dX4_waits_0 : decode cX4_waits 0 = .ok (.aload_n 0, 1) := by decide +kernel
theorem dX4_waits_1 : decode cX4_waits 1 = .ok (.getfield 40, 3) := by decide +kernel
theorem dX4_waits_4 : decode cX4_waits 4 = .ok (.bipush 12, 2) := by decide +kernel
theorem dX4_waits_6 : decode cX4_waits 6 = .ok (.iload_n 1, 1) := by decide +kernel
theorem dX4_waits_7 : decode cX4_waits 7 = .ok (.imul, 1) := by decide +kernel
theorem dX4_waits_8 : decode cX4_waits 8 = .ok (.bipush 8, 2) := by decide +kernel
theorem dX4_waits_10 : decode cX4_waits 10 = .ok (.iadd, 1) := by decide +kernel
theorem dX4_waits_11 : decode cX4_waits 11 = .ok (.iaload, 1) := by decide +kernel
theorem dX4_waits_12 : decode cX4_waits 12 = .ok (.ifCond .ne 7, 3) := by decide +kernel
theorem dX4_waits_15 : decode cX4_waits 15 = .ok (.iconst 1, 1) := by decide +kernel
theorem dX4_waits_16 : decode cX4_waits 16 = .ok (.goto 4, 3) := by decide +kernel
theorem dX4_waits_19 : decode cX4_waits 19 = .ok (.iconst 0, 1) := by decide +kernel
theorem dX4_waits_20 : decode cX4_waits 20 = .ok (.ireturn, 1) := by decide +kernel
set_option maxRecDepth 20000 in
theorem ggX4_told_X4_isOrder : GoodIn wsX4_told wsX4_isOrder := goodIn_r _ [7, 8, 9, 14, 15, 16, 17, 18, 19, 20, 21, 22, 23, 24, 25, 26, 27, 28, 29, 30, 31, 32, 33, 34, 35, 36, 37, 38, 39, 40, 41] (by decide +kernel) (by decide +kernel)
set_option maxRecDepth 20000 in
theorem gX4_told_X4_isOrder : GoodIn wsX4_told (wsV RX4 147 RX4 yX4_isOrder wsX4_isOrder) := goodIn_app (goodIn_of _ (by decide +kernel)) ggX4_told_X4_isOrder
set_option maxRecDepth 20000 in
theorem ggX4_told_X4_bad : GoodIn wsX4_told wsX4_bad := goodIn_r _ [13, 9, 14, 15, 16, 17, 18, 19, 20, 21, 22, 23, 24, 25, 26, 27, 28, 29, 30, 31, 32, 33, 34, 35, 36, 37, 38, 39, 40, 41] (by decide +kernel) (by decide +kernel)
set_option maxRecDepth 20000 in
theorem gX4_told_X4_bad : GoodIn wsX4_told (wsV RX4 64 RX4 yX4_bad wsX4_bad) := goodIn_app (goodIn_of _ (by decide +kernel)) ggX4_told_X4_bad
theorem dX4_told_0 : decode cX4_told 0 = .ok (.aload_n 0, 1) := by decide +kernel
theorem dX4_told_1 : decode cX4_told 1 = .ok (.iload_n 1, 1) := by decide +kernel
theorem dX4_told_2 : decode cX4_told 2 = .ok (.invokevirtual 147, 3) := by decide +kernel
theorem dX4_told_5 : decode cX4_told 5 = .ok (.ifCond .eq 26, 3) := by decide +kernel
theorem dX4_told_8 : decode cX4_told 8 = .ok (.aload_n 0, 1) := by decide +kernel
theorem dX4_told_9 : decode cX4_told 9 = .ok (.iload_n 2, 1) := by decide +kernel
theorem dX4_told_10 : decode cX4_told 10 = .ok (.ifCond .lt 9, 3) := by decide +kernel
theorem dX4_told_13 : decode cX4_told 13 = .ok (.iload_n 2, 1) := by decide +kernel
theorem dX4_told_14 : decode cX4_told 14 = .ok (.bipush 11, 2) := by decide +kernel
theorem dX4_told_16 : decode cX4_told 16 = .ok (.if_icmp .le 7, 3) := by decide +kernel
theorem dX4_told_19 : decode cX4_told 19 = .ok (.iconst 1, 1) := by decide +kernel
theorem dX4_told_20 : decode cX4_told 20 = .ok (.goto 4, 3) := by decide +kernel
theorem dX4_told_23 : decode cX4_told 23 = .ok (.iconst 0, 1) := by decide +kernel
theorem dX4_told_24 : decode cX4_told 24 = .ok (.iconst 2, 1) := by decide +kernel
theorem dX4_told_25 : decode cX4_told 25 = .ok (.invokevirtual 64, 3) := by decide +kernel
theorem dX4_told_28 : decode cX4_told 28 = .ok (.ifCond .eq 5, 3) := by decide +kernel
theorem dX4_told_31 : decode cX4_told 31 = .ok (.iconst 0, 1) := by decide +kernel
theorem dX4_told_32 : decode cX4_told 32 = .ok (.ireturn, 1) := by decide +kernel
theorem dX4_told_33 : decode cX4_told 33 = .ok (.aload_n 0, 1) := by decide +kernel
theorem dX4_told_34 : decode cX4_told 34 = .ok (.getfield 40, 3) := by decide +kernel
theorem dX4_told_37 : decode cX4_told 37 = .ok (.bipush 12, 2) := by decide +kernel
theorem dX4_told_39 : decode cX4_told 39 = .ok (.iload_n 1, 1) := by decide +kernel
theorem dX4_told_40 : decode cX4_told 40 = .ok (.imul, 1) := by decide +kernel
theorem dX4_told_41 : decode cX4_told 41 = .ok (.iload_n 2, 1) := by decide +kernel
theorem dX4_told_42 : decode cX4_told 42 = .ok (.iadd, 1) := by decide +kernel
theorem dX4_told_43 : decode cX4_told 43 = .ok (.iaload, 1) := by decide +kernel
theorem dX4_told_44 : decode cX4_told 44 = .ok (.istore_n 3, 1) := by decide +kernel
theorem dX4_told_45 : decode cX4_told 45 = .ok (.iload_n 2, 1) := by decide +kernel
theorem dX4_told_46 : decode cX4_told 46 = .ok (.bipush 8, 2) := by decide +kernel
theorem dX4_told_48 : decode cX4_told 48 = .ok (.if_icmp .ne 31, 3) := by decide +kernel
theorem dX4_told_51 : decode cX4_told 51 = .ok (.iload_n 3, 1) := by decide +kernel
theorem dX4_told_52 : decode cX4_told 52 = .ok (.iconst 1, 1) := by decide +kernel
theorem dX4_told_53 : decode cX4_told 53 = .ok (.if_icmp .ne 26, 3) := by decide +kernel
theorem dX4_told_56 : decode cX4_told 56 = .ok (.aload_n 0, 1) := by decide +kernel
theorem dX4_told_57 : decode cX4_told 57 = .ok (.getfield 40, 3) := by decide +kernel
theorem dX4_told_60 : decode cX4_told 60 = .ok (.bipush 12, 2) := by decide +kernel
theorem dX4_told_62 : decode cX4_told 62 = .ok (.iload_n 1, 1) := by decide +kernel
theorem dX4_told_63 : decode cX4_told 63 = .ok (.imul, 1) := by decide +kernel
theorem dX4_told_64 : decode cX4_told 64 = .ok (.bipush 10, 2) := by decide +kernel
theorem dX4_told_66 : decode cX4_told 66 = .ok (.iadd, 1) := by decide +kernel
theorem dX4_told_67 : decode cX4_told 67 = .ok (.iaload, 1) := by decide +kernel
theorem dX4_told_68 : decode cX4_told 68 = .ok (.aload_n 0, 1) := by decide +kernel
theorem dX4_told_69 : decode cX4_told 69 = .ok (.getfield 150, 3) := by decide +kernel
theorem dX4_told_72 : decode cX4_told 72 = .ok (.if_icmp .gt 7, 3) := by decide +kernel
theorem dX4_told_75 : decode cX4_told 75 = .ok (.iconst 2, 1) := by decide +kernel
theorem dX4_told_76 : decode cX4_told 76 = .ok (.goto 4, 3) := by decide +kernel
theorem dX4_told_79 : decode cX4_told 79 = .ok (.iload_n 3, 1) := by decide +kernel
theorem dX4_told_80 : decode cX4_told 80 = .ok (.ireturn, 1) := by decide +kernel
theorem dX4_goes_0 : decode cX4_goes 0 = .ok (.bipush 12, 2) := by decide +kernel
theorem dX4_goes_2 : decode cX4_goes 2 = .ok (.iload_n 1, 1) := by decide +kernel
theorem dX4_goes_3 : decode cX4_goes 3 = .ok (.imul, 1) := by decide +kernel
theorem dX4_goes_4 : decode cX4_goes 4 = .ok (.istore_n 2, 1) := by decide +kernel
theorem dX4_goes_5 : decode cX4_goes 5 = .ok (.aload_n 0, 1) := by decide +kernel
theorem dX4_goes_6 : decode cX4_goes 6 = .ok (.getfield 40, 3) := by decide +kernel
theorem dX4_goes_9 : decode cX4_goes 9 = .ok (.iload_n 2, 1) := by decide +kernel
theorem dX4_goes_10 : decode cX4_goes 10 = .ok (.iaload, 1) := by decide +kernel
theorem dX4_goes_11 : decode cX4_goes 11 = .ok (.istore_n 3, 1) := by decide +kernel
theorem dX4_goes_12 : decode cX4_goes 12 = .ok (.aload_n 0, 1) := by decide +kernel
theorem dX4_goes_13 : decode cX4_goes 13 = .ok (.getfield 150, 3) := by decide +kernel
theorem dX4_goes_16 : decode cX4_goes 16 = .ok (.aload_n 0, 1) := by decide +kernel
theorem dX4_goes_17 : decode cX4_goes 17 = .ok (.getfield 153, 3) := by decide +kernel
theorem dX4_goes_20 : decode cX4_goes 20 = .ok (.if_icmp .le 10, 3) := by decide +kernel
theorem dX4_goes_23 : decode cX4_goes 23 = .ok (.aload_n 0, 1) := by decide +kernel
theorem dX4_goes_24 : decode cX4_goes 24 = .ok (.getfield 150, 3) := by decide +kernel
theorem dX4_goes_27 : decode cX4_goes 27 = .ok (.goto 7, 3) := by decide +kernel
theorem dX4_goes_30 : decode cX4_goes 30 = .ok (.aload_n 0, 1) := by decide +kernel
theorem dX4_goes_31 : decode cX4_goes 31 = .ok (.getfield 153, 3) := by decide +kernel
theorem dX4_goes_34 : decode cX4_goes 34 = .ok (.istore 4, 2) := by decide +kernel
theorem dX4_goes_36 : decode cX4_goes 36 = .ok (.aload_n 0, 1) := by decide +kernel
theorem dX4_goes_37 : decode cX4_goes 37 = .ok (.getfield 34, 3) := by decide +kernel
theorem dX4_goes_40 : decode cX4_goes 40 = .ok (.iload_n 3, 1) := by decide +kernel
theorem dX4_goes_41 : decode cX4_goes 41 = .ok (.iaload, 1) := by decide +kernel
theorem dX4_goes_42 : decode cX4_goes 42 = .ok (.aload_n 0, 1) := by decide +kernel
theorem dX4_goes_43 : decode cX4_goes 43 = .ok (.getfield 40, 3) := by decide +kernel
theorem dX4_goes_46 : decode cX4_goes 46 = .ok (.iload_n 2, 1) := by decide +kernel
theorem dX4_goes_47 : decode cX4_goes 47 = .ok (.iconst 4, 1) := by decide +kernel
theorem dX4_goes_48 : decode cX4_goes 48 = .ok (.iadd, 1) := by decide +kernel
theorem dX4_goes_49 : decode cX4_goes 49 = .ok (.iaload, 1) := by decide +kernel
theorem dX4_goes_50 : decode cX4_goes 50 = .ok (.isub, 1) := by decide +kernel
theorem dX4_goes_51 : decode cX4_goes 51 = .ok (.iload 4, 2) := by decide +kernel
theorem dX4_goes_53 : decode cX4_goes 53 = .ok (.if_icmp .le 20, 3) := by decide +kernel
theorem dX4_goes_56 : decode cX4_goes 56 = .ok (.aload_n 0, 1) := by decide +kernel
theorem dX4_goes_57 : decode cX4_goes 57 = .ok (.getfield 34, 3) := by decide +kernel
theorem dX4_goes_60 : decode cX4_goes 60 = .ok (.iload_n 3, 1) := by decide +kernel
theorem dX4_goes_61 : decode cX4_goes 61 = .ok (.iaload, 1) := by decide +kernel
theorem dX4_goes_62 : decode cX4_goes 62 = .ok (.aload_n 0, 1) := by decide +kernel
theorem dX4_goes_63 : decode cX4_goes 63 = .ok (.getfield 40, 3) := by decide +kernel
theorem dX4_goes_66 : decode cX4_goes 66 = .ok (.iload_n 2, 1) := by decide +kernel
theorem dX4_goes_67 : decode cX4_goes 67 = .ok (.iconst 4, 1) := by decide +kernel
theorem dX4_goes_68 : decode cX4_goes 68 = .ok (.iadd, 1) := by decide +kernel
theorem dX4_goes_69 : decode cX4_goes 69 = .ok (.iaload, 1) := by decide +kernel
theorem dX4_goes_70 : decode cX4_goes 70 = .ok (.isub, 1) := by decide +kernel
theorem dX4_goes_71 : decode cX4_goes 71 = .ok (.istore 4, 2) := by decide +kernel
theorem dX4_goes_73 : decode cX4_goes 73 = .ok (.aload_n 0, 1) := by decide +kernel
theorem dX4_goes_74 : decode cX4_goes 74 = .ok (.getfield 40, 3) := by decide +kernel
theorem dX4_goes_77 : decode cX4_goes 77 = .ok (.iload_n 2, 1) := by decide +kernel
theorem dX4_goes_78 : decode cX4_goes 78 = .ok (.bipush 8, 2) := by decide +kernel
theorem dX4_goes_80 : decode cX4_goes 80 = .ok (.iadd, 1) := by decide +kernel
theorem dX4_goes_81 : decode cX4_goes 81 = .ok (.iconst 1, 1) := by decide +kernel
theorem dX4_goes_82 : decode cX4_goes 82 = .ok (.iastore, 1) := by decide +kernel
theorem dX4_goes_83 : decode cX4_goes 83 = .ok (.aload_n 0, 1) := by decide +kernel
theorem dX4_goes_84 : decode cX4_goes 84 = .ok (.getfield 40, 3) := by decide +kernel
theorem dX4_goes_87 : decode cX4_goes 87 = .ok (.iload_n 2, 1) := by decide +kernel
theorem dX4_goes_88 : decode cX4_goes 88 = .ok (.bipush 9, 2) := by decide +kernel
theorem dX4_goes_90 : decode cX4_goes 90 = .ok (.iadd, 1) := by decide +kernel
theorem dX4_goes_91 : decode cX4_goes 91 = .ok (.iload 4, 2) := by decide +kernel
theorem dX4_goes_93 : decode cX4_goes 93 = .ok (.iastore, 1) := by decide +kernel
theorem dX4_goes_94 : decode cX4_goes 94 = .ok (.aload_n 0, 1) := by decide +kernel
theorem dX4_goes_95 : decode cX4_goes 95 = .ok (.getfield 40, 3) := by decide +kernel
theorem dX4_goes_98 : decode cX4_goes 98 = .ok (.iload_n 2, 1) := by decide +kernel
theorem dX4_goes_99 : decode cX4_goes 99 = .ok (.bipush 10, 2) := by decide +kernel
theorem dX4_goes_101 : decode cX4_goes 101 = .ok (.iadd, 1) := by decide +kernel
theorem dX4_goes_102 : decode cX4_goes 102 = .ok (.iload 4, 2) := by decide +kernel
theorem dX4_goes_104 : decode cX4_goes 104 = .ok (.aload_n 0, 1) := by decide +kernel
theorem dX4_goes_105 : decode cX4_goes 105 = .ok (.getfield 40, 3) := by decide +kernel
theorem dX4_goes_108 : decode cX4_goes 108 = .ok (.iload_n 2, 1) := by decide +kernel
theorem dX4_goes_109 : decode cX4_goes 109 = .ok (.iconst 4, 1) := by decide +kernel
theorem dX4_goes_110 : decode cX4_goes 110 = .ok (.iadd, 1) := by decide +kernel
theorem dX4_goes_111 : decode cX4_goes 111 = .ok (.iaload, 1) := by decide +kernel
theorem dX4_goes_112 : decode cX4_goes 112 = .ok (.iadd, 1) := by decide +kernel
theorem dX4_goes_113 : decode cX4_goes 113 = .ok (.aload_n 0, 1) := by decide +kernel
theorem dX4_goes_114 : decode cX4_goes 114 = .ok (.getfield 40, 3) := by decide +kernel
theorem dX4_goes_117 : decode cX4_goes 117 = .ok (.iload_n 2, 1) := by decide +kernel
theorem dX4_goes_118 : decode cX4_goes 118 = .ok (.iconst 5, 1) := by decide +kernel
theorem dX4_goes_119 : decode cX4_goes 119 = .ok (.iadd, 1) := by decide +kernel
theorem dX4_goes_120 : decode cX4_goes 120 = .ok (.iaload, 1) := by decide +kernel
theorem dX4_goes_121 : decode cX4_goes 121 = .ok (.iadd, 1) := by decide +kernel
theorem dX4_goes_122 : decode cX4_goes 122 = .ok (.iastore, 1) := by decide +kernel
theorem dX4_goes_123 : decode cX4_goes 123 = .ok (.aload_n 0, 1) := by decide +kernel
theorem dX4_goes_124 : decode cX4_goes 124 = .ok (.getfield 40, 3) := by decide +kernel
theorem dX4_goes_127 : decode cX4_goes 127 = .ok (.iload_n 2, 1) := by decide +kernel
theorem dX4_goes_128 : decode cX4_goes 128 = .ok (.bipush 11, 2) := by decide +kernel
theorem dX4_goes_130 : decode cX4_goes 130 = .ok (.iadd, 1) := by decide +kernel
theorem dX4_goes_131 : decode cX4_goes 131 = .ok (.iload 4, 2) := by decide +kernel
theorem dX4_goes_133 : decode cX4_goes 133 = .ok (.aload_n 0, 1) := by decide +kernel
theorem dX4_goes_134 : decode cX4_goes 134 = .ok (.getfield 150, 3) := by decide +kernel
theorem dX4_goes_137 : decode cX4_goes 137 = .ok (.if_icmp .ne 7, 3) := by decide +kernel
theorem dX4_goes_140 : decode cX4_goes 140 = .ok (.iconst (-1), 1) := by decide +kernel
theorem dX4_goes_141 : decode cX4_goes 141 = .ok (.goto 34, 3) := by decide +kernel
theorem dX4_goes_144 : decode cX4_goes 144 = .ok (.aload_n 0, 1) := by decide +kernel
theorem dX4_goes_145 : decode cX4_goes 145 = .ok (.getfield 153, 3) := by decide +kernel
theorem dX4_goes_148 : decode cX4_goes 148 = .ok (.iload 4, 2) := by decide +kernel
theorem dX4_goes_150 : decode cX4_goes 150 = .ok (.if_icmp .lt 17, 3) := by decide +kernel
theorem dX4_goes_153 : decode cX4_goes 153 = .ok (.aload_n 0, 1) := by decide +kernel
theorem dX4_goes_154 : decode cX4_goes 154 = .ok (.getfield 31, 3) := by decide +kernel
theorem dX4_goes_157 : decode cX4_goes 157 = .ok (.ifCond .lt 10, 3) := by decide +kernel
theorem dX4_goes_160 : decode cX4_goes 160 = .ok (.aload_n 0, 1) := by decide +kernel
theorem dX4_goes_161 : decode cX4_goes 161 = .ok (.getfield 31, 3) := by decide +kernel
theorem dX4_goes_164 : decode cX4_goes 164 = .ok (.goto 11, 3) := by decide +kernel
theorem dX4_goes_167 : decode cX4_goes 167 = .ok (.aload_n 0, 1) := by decide +kernel
theorem dX4_goes_168 : decode cX4_goes 168 = .ok (.getfield 37, 3) := by decide +kernel
theorem dX4_goes_171 : decode cX4_goes 171 = .ok (.iload_n 3, 1) := by decide +kernel
theorem dX4_goes_172 : decode cX4_goes 172 = .ok (.iaload, 1) := by decide +kernel
theorem dX4_goes_173 : decode cX4_goes 173 = .ok (.iconst 1, 1) := by decide +kernel
theorem dX4_goes_174 : decode cX4_goes 174 = .ok (.isub, 1) := by decide +kernel
theorem dX4_goes_175 : decode cX4_goes 175 = .ok (.iastore, 1) := by decide +kernel
theorem dX4_goes_176 : decode cX4_goes 176 = .ok (.aload_n 0, 1) := by decide +kernel
theorem dX4_goes_177 : decode cX4_goes 177 = .ok (.iload 4, 2) := by decide +kernel
theorem dX4_goes_179 : decode cX4_goes 179 = .ok (.aload_n 0, 1) := by decide +kernel
theorem dX4_goes_180 : decode cX4_goes 180 = .ok (.getfield 40, 3) := by decide +kernel
theorem dX4_goes_183 : decode cX4_goes 183 = .ok (.iload_n 2, 1) := by decide +kernel
theorem dX4_goes_184 : decode cX4_goes 184 = .ok (.iconst 4, 1) := by decide +kernel
theorem dX4_goes_185 : decode cX4_goes 185 = .ok (.iadd, 1) := by decide +kernel
theorem dX4_goes_186 : decode cX4_goes 186 = .ok (.iaload, 1) := by decide +kernel
theorem dX4_goes_187 : decode cX4_goes 187 = .ok (.iadd, 1) := by decide +kernel
theorem dX4_goes_188 : decode cX4_goes 188 = .ok (.putfield 153, 3) := by decide +kernel
theorem dX4_goes_191 : decode cX4_goes 191 = .ok (.aload_n 0, 1) := by decide +kernel
theorem dX4_goes_192 : decode cX4_goes 192 = .ok (.iload_n 1, 1) := by decide +kernel
theorem dX4_goes_193 : decode cX4_goes 193 = .ok (.putfield 31, 3) := by decide +kernel
theorem dX4_goes_196 : decode cX4_goes 196 = .ok (.aload_n 0, 1) := by decide +kernel
theorem dX4_goes_197 : decode cX4_goes 197 = .ok (.getfield 34, 3) := by decide +kernel
theorem dX4_goes_200 : decode cX4_goes 200 = .ok (.iload_n 3, 1) := by decide +kernel
theorem dX4_goes_201 : decode cX4_goes 201 = .ok (.aload_n 0, 1) := by decide +kernel
theorem dX4_goes_202 : decode cX4_goes 202 = .ok (.getfield 40, 3) := by decide +kernel
theorem dX4_goes_205 : decode cX4_goes 205 = .ok (.iload_n 2, 1) := by decide +kernel
theorem dX4_goes_206 : decode cX4_goes 206 = .ok (.bipush 10, 2) := by decide +kernel
theorem dX4_goes_208 : decode cX4_goes 208 = .ok (.iadd, 1) := by decide +kernel
theorem dX4_goes_209 : decode cX4_goes 209 = .ok (.iaload, 1) := by decide +kernel
theorem dX4_goes_210 : decode cX4_goes 210 = .ok (.iastore, 1) := by decide +kernel
theorem dX4_goes_211 : decode cX4_goes 211 = .ok (.aload_n 0, 1) := by decide +kernel
theorem dX4_goes_212 : decode cX4_goes 212 = .ok (.getfield 37, 3) := by decide +kernel
theorem dX4_goes_215 : decode cX4_goes 215 = .ok (.iload_n 3, 1) := by decide +kernel
theorem dX4_goes_216 : decode cX4_goes 216 = .ok (.iload_n 1, 1) := by decide +kernel
theorem dX4_goes_217 : decode cX4_goes 217 = .ok (.iconst 1, 1) := by decide +kernel
theorem dX4_goes_218 : decode cX4_goes 218 = .ok (.iadd, 1) := by decide +kernel
theorem dX4_goes_219 : decode cX4_goes 219 = .ok (.iastore, 1) := by decide +kernel
theorem dX4_goes_220 : decode cX4_goes 220 = .ok (.iload 4, 2) := by decide +kernel
theorem dX4_goes_222 : decode cX4_goes 222 = .ok (.ireturn, 1) := by decide +kernel
set_option maxRecDepth 20000 in
theorem ggX4_go_X4_isOrder : GoodIn wsX4_go wsX4_isOrder := goodIn_r _ [5, 6, 7, 22, 23, 24, 25, 26, 27, 28, 29, 30, 31, 32, 33, 34, 35, 36, 37, 38, 39, 40, 41, 42, 43, 44, 45, 46, 47, 48, 49] (by decide +kernel) (by decide +kernel)
set_option maxRecDepth 20000 in
theorem gX4_go_X4_isOrder : GoodIn wsX4_go (wsV RX4 147 RX4 yX4_isOrder wsX4_isOrder) := goodIn_app (goodIn_of _ (by decide +kernel)) ggX4_go_X4_isOrder
set_option maxRecDepth 20000 in
theorem ggX4_go_X4_waits : GoodIn wsX4_go wsX4_waits := goodIn_r _ [11, 12, 22, 23, 24, 25, 26, 27, 28, 29, 30, 31, 32, 33, 34, 35, 36, 37, 38, 39, 40, 41, 42, 43, 44, 45, 46, 47, 48, 49] (by decide +kernel) (by decide +kernel)
set_option maxRecDepth 20000 in
theorem gX4_go_X4_waits : GoodIn wsX4_go (wsV RX4 156 RX4 yX4_waits wsX4_waits) := goodIn_app (goodIn_of _ (by decide +kernel)) ggX4_go_X4_waits
set_option maxRecDepth 20000 in
theorem ggX4_go_X4_goes : GoodIn wsX4_go wsX4_goes := goodIn_r _ [16, 12, 17, 18, 19, 20, 21, 22, 23, 24, 25, 26, 27, 28, 29, 30, 31, 32, 33, 34, 35, 36, 37, 38, 39, 40, 41, 42, 43, 44, 45, 46, 47, 48, 49] (by decide +kernel) (by decide +kernel)
set_option maxRecDepth 20000 in
theorem gX4_go_X4_goes : GoodIn wsX4_go (wsV RX4 159 RX4 yX4_goes wsX4_goes) := goodIn_app (goodIn_of _ (by decide +kernel)) ggX4_go_X4_goes
theorem dX4_go_0 : decode cX4_go 0 = .ok (.aload_n 0, 1) := by decide +kernel
theorem dX4_go_1 : decode cX4_go 1 = .ok (.iload_n 1, 1) := by decide +kernel
theorem dX4_go_2 : decode cX4_go 2 = .ok (.invokevirtual 147, 3) := by decide +kernel
theorem dX4_go_5 : decode cX4_go 5 = .ok (.ifCond .ne 5, 3) := by decide +kernel
theorem dX4_go_8 : decode cX4_go 8 = .ok (.iconst 0, 1) := by decide +kernel
theorem dX4_go_9 : decode cX4_go 9 = .ok (.ireturn, 1) := by decide +kernel
theorem dX4_go_10 : decode cX4_go 10 = .ok (.aload_n 0, 1) := by decide +kernel
theorem dX4_go_11 : decode cX4_go 11 = .ok (.iload_n 1, 1) := by decide +kernel
theorem dX4_go_12 : decode cX4_go 12 = .ok (.invokevirtual 156, 3) := by decide +kernel
theorem dX4_go_15 : decode cX4_go 15 = .ok (.ifCond .eq 11, 3) := by decide +kernel
theorem dX4_go_18 : decode cX4_go 18 = .ok (.aload_n 0, 1) := by decide +kernel
theorem dX4_go_19 : decode cX4_go 19 = .ok (.iload_n 1, 1) := by decide +kernel
theorem dX4_go_20 : decode cX4_go 20 = .ok (.invokevirtual 159, 3) := by decide +kernel
theorem dX4_go_23 : decode cX4_go 23 = .ok (.goto 4, 3) := by decide +kernel
theorem dX4_go_26 : decode cX4_go 26 = .ok (.iconst (-1), 1) := by decide +kernel
theorem dX4_go_27 : decode cX4_go 27 = .ok (.ireturn, 1) := by decide +kernel
set_option maxRecDepth 20000 in
theorem ggX4_wait_X4_bad : GoodIn wsX4_wait wsX4_bad := goodIn_r _ [8, 1, 9, 10, 11, 12, 13, 14, 15, 16, 17, 18, 19, 20, 21, 22, 23, 24, 25, 26, 27, 28, 29, 30, 31, 32, 33, 34, 35, 36] (by decide +kernel) (by decide +kernel)
set_option maxRecDepth 20000 in
theorem gX4_wait_X4_bad : GoodIn wsX4_wait (wsV RX4 64 RX4 yX4_bad wsX4_bad) := goodIn_app (goodIn_of _ (by decide +kernel)) ggX4_wait_X4_bad
theorem dX4_wait_0 : decode cX4_wait 0 = .ok (.aload_n 0, 1) := by decide +kernel
theorem dX4_wait_1 : decode cX4_wait 1 = .ok (.iconst 0, 1) := by decide +kernel
theorem dX4_wait_2 : decode cX4_wait 2 = .ok (.putfield 61, 3) := by decide +kernel
theorem dX4_wait_5 : decode cX4_wait 5 = .ok (.aload_n 0, 1) := by decide +kernel
theorem dX4_wait_6 : decode cX4_wait 6 = .ok (.iload_n 1, 1) := by decide +kernel
theorem dX4_wait_7 : decode cX4_wait 7 = .ok (.ifCond .lt 21, 3) := by decide +kernel
theorem dX4_wait_10 : decode cX4_wait 10 = .ok (.iload_n 1, 1) := by decide +kernel
theorem dX4_wait_11 : decode cX4_wait 11 = .ok (.sipush 10000, 3) := by decide +kernel
theorem dX4_wait_14 : decode cX4_wait 14 = .ok (.if_icmp .gt 14, 3) := by decide +kernel
theorem dX4_wait_17 : decode cX4_wait 17 = .ok (.aload_n 0, 1) := by decide +kernel
theorem dX4_wait_18 : decode cX4_wait 18 = .ok (.getfield 150, 3) := by decide +kernel
theorem dX4_wait_21 : decode cX4_wait 21 = .ok (.iload_n 1, 1) := by decide +kernel
theorem dX4_wait_22 : decode cX4_wait 22 = .ok (.iadd, 1) := by decide +kernel
theorem dX4_wait_23 : decode cX4_wait 23 = .ok (.ldc 140, 2) := by decide +kernel
theorem dX4_wait_25 : decode cX4_wait 25 = .ok (.if_icmp .le 7, 3) := by decide +kernel
theorem dX4_wait_28 : decode cX4_wait 28 = .ok (.iconst 1, 1) := by decide +kernel
theorem dX4_wait_29 : decode cX4_wait 29 = .ok (.goto 4, 3) := by decide +kernel
theorem dX4_wait_32 : decode cX4_wait 32 = .ok (.iconst 0, 1) := by decide +kernel
theorem dX4_wait_33 : decode cX4_wait 33 = .ok (.iconst 1, 1) := by decide +kernel
theorem dX4_wait_34 : decode cX4_wait 34 = .ok (.invokevirtual 64, 3) := by decide +kernel
theorem dX4_wait_37 : decode cX4_wait 37 = .ok (.ifCond .eq 5, 3) := by decide +kernel
theorem dX4_wait_40 : decode cX4_wait 40 = .ok (.iconst 0, 1) := by decide +kernel
theorem dX4_wait_41 : decode cX4_wait 41 = .ok (.ireturn, 1) := by decide +kernel
theorem dX4_wait_42 : decode cX4_wait 42 = .ok (.aload_n 0, 1) := by decide +kernel
theorem dX4_wait_43 : decode cX4_wait 43 = .ok (.dup, 1) := by decide +kernel
theorem dX4_wait_44 : decode cX4_wait 44 = .ok (.getfield 150, 3) := by decide +kernel
theorem dX4_wait_47 : decode cX4_wait 47 = .ok (.iload_n 1, 1) := by decide +kernel
theorem dX4_wait_48 : decode cX4_wait 48 = .ok (.iadd, 1) := by decide +kernel
theorem dX4_wait_49 : decode cX4_wait 49 = .ok (.putfield 150, 3) := by decide +kernel
theorem dX4_wait_52 : decode cX4_wait 52 = .ok (.aload_n 0, 1) := by decide +kernel
theorem dX4_wait_53 : decode cX4_wait 53 = .ok (.getfield 150, 3) := by decide +kernel
theorem dX4_wait_56 : decode cX4_wait 56 = .ok (.ireturn, 1) := by decide +kernel
theorem dX4_costOf_0 : decode cX4_costOf 0 = .ok (.aload_n 0, 1) := by decide +kernel
theorem dX4_costOf_1 : decode cX4_costOf 1 = .ok (.getfield 153, 3) := by decide +kernel
theorem dX4_costOf_4 : decode cX4_costOf 4 = .ok (.istore_n 1, 1) := by decide +kernel
theorem dX4_costOf_5 : decode cX4_costOf 5 = .ok (.iconst 0, 1) := by decide +kernel
theorem dX4_costOf_6 : decode cX4_costOf 6 = .ok (.istore_n 2, 1) := by decide +kernel
theorem dX4_costOf_7 : decode cX4_costOf 7 = .ok (.iload_n 2, 1) := by decide +kernel
theorem dX4_costOf_8 : decode cX4_costOf 8 = .ok (.aload_n 0, 1) := by decide +kernel
theorem dX4_costOf_9 : decode cX4_costOf 9 = .ok (.getfield 71, 3) := by decide +kernel
theorem dX4_costOf_12 : decode cX4_costOf 12 = .ok (.if_icmp .ge 21, 3) := by decide +kernel
theorem dX4_costOf_15 : decode cX4_costOf 15 = .ok (.aload_n 0, 1) := by decide +kernel
theorem dX4_costOf_16 : decode cX4_costOf 16 = .ok (.getfield 58, 3) := by decide +kernel
theorem dX4_costOf_19 : decode cX4_costOf 19 = .ok (.iload_n 2, 1) := by decide +kernel
theorem dX4_costOf_20 : decode cX4_costOf 20 = .ok (.aload_n 0, 1) := by decide +kernel
theorem dX4_costOf_21 : decode cX4_costOf 21 = .ok (.getfield 34, 3) := by decide +kernel
theorem dX4_costOf_24 : decode cX4_costOf 24 = .ok (.iload_n 2, 1) := by decide +kernel
theorem dX4_costOf_25 : decode cX4_costOf 25 = .ok (.iaload, 1) := by decide +kernel
theorem dX4_costOf_26 : decode cX4_costOf 26 = .ok (.iastore, 1) := by decide +kernel
theorem dX4_costOf_27 : decode cX4_costOf 27 = .ok (.iinc 2 1, 3) := by decide +kernel
theorem dX4_costOf_30 : decode cX4_costOf 30 = .ok (.goto (-23), 3) := by decide +kernel
theorem dX4_costOf_33 : decode cX4_costOf 33 = .ok (.lconst 0, 1) := by decide +kernel
theorem dX4_costOf_34 : decode cX4_costOf 34 = .ok (.lstore_n 2, 1) := by decide +kernel
theorem dX4_costOf_35 : decode cX4_costOf 35 = .ok (.iconst 0, 1) := by decide +kernel
theorem dX4_costOf_36 : decode cX4_costOf 36 = .ok (.istore 4, 2) := by decide +kernel
theorem dX4_costOf_38 : decode cX4_costOf 38 = .ok (.iload 4, 2) := by decide +kernel
theorem dX4_costOf_40 : decode cX4_costOf 40 = .ok (.aload_n 0, 1) := by decide +kernel
theorem dX4_costOf_41 : decode cX4_costOf 41 = .ok (.getfield 162, 3) := by decide +kernel
theorem dX4_costOf_44 : decode cX4_costOf 44 = .ok (.if_icmp .ge 148, 3) := by decide +kernel
theorem dX4_costOf_47 : decode cX4_costOf 47 = .ok (.bipush 12, 2) := by decide +kernel
theorem dX4_costOf_49 : decode cX4_costOf 49 = .ok (.aload_n 0, 1) := by decide +kernel
theorem dX4_costOf_50 : decode cX4_costOf 50 = .ok (.getfield 49, 3) := by decide +kernel
theorem dX4_costOf_53 : decode cX4_costOf 53 = .ok (.aload_n 0, 1) := by decide +kernel
theorem dX4_costOf_54 : decode cX4_costOf 54 = .ok (.getfield 52, 3) := by decide +kernel
theorem dX4_costOf_57 : decode cX4_costOf 57 = .ok (.iload 4, 2) := by decide +kernel
theorem dX4_costOf_59 : decode cX4_costOf 59 = .ok (.iaload, 1) := by decide +kernel
theorem dX4_costOf_60 : decode cX4_costOf 60 = .ok (.iaload, 1) := by decide +kernel
theorem dX4_costOf_61 : decode cX4_costOf 61 = .ok (.imul, 1) := by decide +kernel
theorem dX4_costOf_62 : decode cX4_costOf 62 = .ok (.istore 5, 2) := by decide +kernel
theorem dX4_costOf_64 : decode cX4_costOf 64 = .ok (.aload_n 0, 1) := by decide +kernel
theorem dX4_costOf_65 : decode cX4_costOf 65 = .ok (.getfield 40, 3) := by decide +kernel
theorem dX4_costOf_68 : decode cX4_costOf 68 = .ok (.iload 5, 2) := by decide +kernel
theorem dX4_costOf_70 : decode cX4_costOf 70 = .ok (.iaload, 1) := by decide +kernel
theorem dX4_costOf_71 : decode cX4_costOf 71 = .ok (.istore 6, 2) := by decide +kernel
theorem dX4_costOf_73 : decode cX4_costOf 73 = .ok (.aload_n 0, 1) := by decide +kernel
theorem dX4_costOf_74 : decode cX4_costOf 74 = .ok (.getfield 150, 3) := by decide +kernel
theorem dX4_costOf_77 : decode cX4_costOf 77 = .ok (.iload_n 1, 1) := by decide +kernel
theorem dX4_costOf_78 : decode cX4_costOf 78 = .ok (.if_icmp .le 10, 3) := by decide +kernel
theorem dX4_costOf_81 : decode cX4_costOf 81 = .ok (.aload_n 0, 1) := by decide +kernel
theorem dX4_costOf_82 : decode cX4_costOf 82 = .ok (.getfield 150, 3) := by decide +kernel
theorem dX4_costOf_85 : decode cX4_costOf 85 = .ok (.goto 4, 3) := by decide +kernel
theorem dX4_costOf_88 : decode cX4_costOf 88 = .ok (.iload_n 1, 1) := by decide +kernel
theorem dX4_costOf_89 : decode cX4_costOf 89 = .ok (.istore 7, 2) := by decide +kernel
theorem dX4_costOf_91 : decode cX4_costOf 91 = .ok (.aload_n 0, 1) := by decide +kernel
theorem dX4_costOf_92 : decode cX4_costOf 92 = .ok (.getfield 58, 3) := by decide +kernel
theorem dX4_costOf_95 : decode cX4_costOf 95 = .ok (.iload 6, 2) := by decide +kernel
theorem dX4_costOf_97 : decode cX4_costOf 97 = .ok (.iaload, 1) := by decide +kernel
theorem dX4_costOf_98 : decode cX4_costOf 98 = .ok (.aload_n 0, 1) := by decide +kernel
theorem dX4_costOf_99 : decode cX4_costOf 99 = .ok (.getfield 40, 3) := by decide +kernel
theorem dX4_costOf_102 : decode cX4_costOf 102 = .ok (.iload 5, 2) := by decide +kernel
theorem dX4_costOf_104 : decode cX4_costOf 104 = .ok (.iconst 4, 1) := by decide +kernel
theorem dX4_costOf_105 : decode cX4_costOf 105 = .ok (.iadd, 1) := by decide +kernel
theorem dX4_costOf_106 : decode cX4_costOf 106 = .ok (.iaload, 1) := by decide +kernel
theorem dX4_costOf_107 : decode cX4_costOf 107 = .ok (.isub, 1) := by decide +kernel
theorem dX4_costOf_108 : decode cX4_costOf 108 = .ok (.iload 7, 2) := by decide +kernel
theorem dX4_costOf_110 : decode cX4_costOf 110 = .ok (.if_icmp .le 22, 3) := by decide +kernel
theorem dX4_costOf_113 : decode cX4_costOf 113 = .ok (.aload_n 0, 1) := by decide +kernel
theorem dX4_costOf_114 : decode cX4_costOf 114 = .ok (.getfield 58, 3) := by decide +kernel
theorem dX4_costOf_117 : decode cX4_costOf 117 = .ok (.iload 6, 2) := by decide +kernel
theorem dX4_costOf_119 : decode cX4_costOf 119 = .ok (.iaload, 1) := by decide +kernel
theorem dX4_costOf_120 : decode cX4_costOf 120 = .ok (.aload_n 0, 1) := by decide +kernel
theorem dX4_costOf_121 : decode cX4_costOf 121 = .ok (.getfield 40, 3) := by decide +kernel
theorem dX4_costOf_124 : decode cX4_costOf 124 = .ok (.iload 5, 2) := by decide +kernel
theorem dX4_costOf_126 : decode cX4_costOf 126 = .ok (.iconst 4, 1) := by decide +kernel
theorem dX4_costOf_127 : decode cX4_costOf 127 = .ok (.iadd, 1) := by decide +kernel
theorem dX4_costOf_128 : decode cX4_costOf 128 = .ok (.iaload, 1) := by decide +kernel
theorem dX4_costOf_129 : decode cX4_costOf 129 = .ok (.isub, 1) := by decide +kernel
theorem dX4_costOf_130 : decode cX4_costOf 130 = .ok (.istore 7, 2) := by decide +kernel
theorem dX4_costOf_132 : decode cX4_costOf 132 = .ok (.iload 7, 2) := by decide +kernel
theorem dX4_costOf_134 : decode cX4_costOf 134 = .ok (.aload_n 0, 1) := by decide +kernel
theorem dX4_costOf_135 : decode cX4_costOf 135 = .ok (.getfield 40, 3) := by decide +kernel
theorem dX4_costOf_138 : decode cX4_costOf 138 = .ok (.iload 5, 2) := by decide +kernel
theorem dX4_costOf_140 : decode cX4_costOf 140 = .ok (.iconst 4, 1) := by decide +kernel
theorem dX4_costOf_141 : decode cX4_costOf 141 = .ok (.iadd, 1) := by decide +kernel
theorem dX4_costOf_142 : decode cX4_costOf 142 = .ok (.iaload, 1) := by decide +kernel
theorem dX4_costOf_143 : decode cX4_costOf 143 = .ok (.iadd, 1) := by decide +kernel
theorem dX4_costOf_144 : decode cX4_costOf 144 = .ok (.istore_n 1, 1) := by decide +kernel
theorem dX4_costOf_145 : decode cX4_costOf 145 = .ok (.aload_n 0, 1) := by decide +kernel
theorem dX4_costOf_146 : decode cX4_costOf 146 = .ok (.getfield 58, 3) := by decide +kernel
theorem dX4_costOf_149 : decode cX4_costOf 149 = .ok (.iload 6, 2) := by decide +kernel
theorem dX4_costOf_151 : decode cX4_costOf 151 = .ok (.iload_n 1, 1) := by decide +kernel
theorem dX4_costOf_152 : decode cX4_costOf 152 = .ok (.aload_n 0, 1) := by decide +kernel
theorem dX4_costOf_153 : decode cX4_costOf 153 = .ok (.getfield 40, 3) := by decide +kernel
theorem dX4_costOf_156 : decode cX4_costOf 156 = .ok (.iload 5, 2) := by decide +kernel
theorem dX4_costOf_158 : decode cX4_costOf 158 = .ok (.iconst 5, 1) := by decide +kernel
theorem dX4_costOf_159 : decode cX4_costOf 159 = .ok (.iadd, 1) := by decide +kernel
theorem dX4_costOf_160 : decode cX4_costOf 160 = .ok (.iaload, 1) := by decide +kernel
theorem dX4_costOf_161 : decode cX4_costOf 161 = .ok (.iadd, 1) := by decide +kernel
theorem dX4_costOf_162 : decode cX4_costOf 162 = .ok (.iastore, 1) := by decide +kernel
theorem dX4_costOf_163 : decode cX4_costOf 163 = .ok (.lload_n 2, 1) := by decide +kernel
theorem dX4_costOf_164 : decode cX4_costOf 164 = .ok (.aload_n 0, 1) := by decide +kernel
theorem dX4_costOf_165 : decode cX4_costOf 165 = .ok (.getfield 40, 3) := by decide +kernel
theorem dX4_costOf_168 : decode cX4_costOf 168 = .ok (.iload 5, 2) := by decide +kernel
theorem dX4_costOf_170 : decode cX4_costOf 170 = .ok (.bipush 7, 2) := by decide +kernel
theorem dX4_costOf_172 : decode cX4_costOf 172 = .ok (.iadd, 1) := by decide +kernel
theorem dX4_costOf_173 : decode cX4_costOf 173 = .ok (.iaload, 1) := by decide +kernel
theorem dX4_costOf_174 : decode cX4_costOf 174 = .ok (.i2l, 1) := by decide +kernel
theorem dX4_costOf_175 : decode cX4_costOf 175 = .ok (.aload_n 0, 1) := by decide +kernel
theorem dX4_costOf_176 : decode cX4_costOf 176 = .ok (.getfield 58, 3) := by decide +kernel
theorem dX4_costOf_179 : decode cX4_costOf 179 = .ok (.iload 6, 2) := by decide +kernel
theorem dX4_costOf_181 : decode cX4_costOf 181 = .ok (.iaload, 1) := by decide +kernel
theorem dX4_costOf_182 : decode cX4_costOf 182 = .ok (.i2l, 1) := by decide +kernel
theorem dX4_costOf_183 : decode cX4_costOf 183 = .ok (.lmul, 1) := by decide +kernel
theorem dX4_costOf_184 : decode cX4_costOf 184 = .ok (.ladd, 1) := by decide +kernel
theorem dX4_costOf_185 : decode cX4_costOf 185 = .ok (.lstore_n 2, 1) := by decide +kernel
theorem dX4_costOf_186 : decode cX4_costOf 186 = .ok (.iinc 4 1, 3) := by decide +kernel
theorem dX4_costOf_189 : decode cX4_costOf 189 = .ok (.goto (-151), 3) := by decide +kernel
theorem dX4_costOf_192 : decode cX4_costOf 192 = .ok (.lload_n 2, 1) := by decide +kernel
theorem dX4_costOf_193 : decode cX4_costOf 193 = .ok (.lreturn, 1) := by decide +kernel
theorem dX4_isUsed_0 : decode cX4_isUsed 0 = .ok (.iconst 0, 1) := by decide +kernel
theorem dX4_isUsed_1 : decode cX4_isUsed 1 = .ok (.istore_n 3, 1) := by decide +kernel
theorem dX4_isUsed_2 : decode cX4_isUsed 2 = .ok (.iload_n 3, 1) := by decide +kernel
theorem dX4_isUsed_3 : decode cX4_isUsed 3 = .ok (.iload_n 1, 1) := by decide +kernel
theorem dX4_isUsed_4 : decode cX4_isUsed 4 = .ok (.if_icmp .ge 21, 3) := by decide +kernel
theorem dX4_isUsed_7 : decode cX4_isUsed 7 = .ok (.aload_n 0, 1) := by decide +kernel
theorem dX4_isUsed_8 : decode cX4_isUsed 8 = .ok (.getfield 52, 3) := by decide +kernel
theorem dX4_isUsed_11 : decode cX4_isUsed 11 = .ok (.iload_n 3, 1) := by decide +kernel
theorem dX4_isUsed_12 : decode cX4_isUsed 12 = .ok (.iaload, 1) := by decide +kernel
theorem dX4_isUsed_13 : decode cX4_isUsed 13 = .ok (.iload_n 2, 1) := by decide +kernel
theorem dX4_isUsed_14 : decode cX4_isUsed 14 = .ok (.if_icmp .ne 5, 3) := by decide +kernel
theorem dX4_isUsed_17 : decode cX4_isUsed 17 = .ok (.iconst 1, 1) := by decide +kernel
theorem dX4_isUsed_18 : decode cX4_isUsed 18 = .ok (.ireturn, 1) := by decide +kernel
theorem dX4_isUsed_19 : decode cX4_isUsed 19 = .ok (.iinc 3 1, 3) := by decide +kernel
theorem dX4_isUsed_22 : decode cX4_isUsed 22 = .ok (.goto (-20), 3) := by decide +kernel
theorem dX4_isUsed_25 : decode cX4_isUsed 25 = .ok (.iconst 0, 1) := by decide +kernel
theorem dX4_isUsed_26 : decode cX4_isUsed 26 = .ok (.ireturn, 1) := by decide +kernel
set_option maxRecDepth 20000 in
theorem ggX4_plans_X4_waits : GoodIn wsX4_plans wsX4_waits := goodIn_r _ [12, 13, 27, 28, 29, 30, 31, 32, 33, 34, 35, 36, 37, 38, 39, 40, 41, 42, 43, 44, 45, 46, 47, 48, 49, 50, 51, 52, 53, 54] (by decide +kernel) (by decide +kernel)
set_option maxRecDepth 20000 in
theorem gX4_plans_X4_waits : GoodIn wsX4_plans (wsV RX4 156 RX4 yX4_waits wsX4_waits) := goodIn_app (goodIn_of _ (by decide +kernel)) ggX4_plans_X4_waits
set_option maxRecDepth 20000 in
theorem ggX4_plans_X4_costOf : GoodIn wsX4_plans wsX4_costOf := goodIn_r _ [17, 18, 19, 20, 21, 1, 3, 6, 13, 22, 27, 28, 29, 30, 31, 32, 33, 34, 35, 36, 37, 38, 39, 40, 41, 42, 43, 44, 45, 46, 47, 48, 49, 50, 51, 52, 53, 54] (by decide +kernel) (by decide +kernel)
set_option maxRecDepth 20000 in
theorem gX4_plans_X4_costOf : GoodIn wsX4_plans (wsV RX4 171 RX4 yX4_costOf wsX4_costOf) := goodIn_app (goodIn_of _ (by decide +kernel)) ggX4_plans_X4_costOf
set_option maxRecDepth 20000 in
theorem ggX4_plans_X4_isUsed : GoodIn wsX4_plans wsX4_isUsed := goodIn_r _ [26, 6, 27, 28, 29, 30, 31, 32, 33, 34, 35, 36, 37, 38, 39, 40, 41, 42, 43, 44, 45, 46, 47, 48, 49, 50, 51, 52, 53, 54] (by decide +kernel) (by decide +kernel)
set_option maxRecDepth 20000 in
theorem gX4_plans_X4_isUsed : GoodIn wsX4_plans (wsV RX4 175 RX4 yX4_isUsed wsX4_isUsed) := goodIn_app (goodIn_of _ (by decide +kernel)) ggX4_plans_X4_isUsed
theorem dX4_plans_0 : decode cX4_plans 0 = .ok (.aload_n 0, 1) := by decide +kernel
theorem dX4_plans_1 : decode cX4_plans 1 = .ok (.iconst 0, 1) := by decide +kernel
theorem dX4_plans_2 : decode cX4_plans 2 = .ok (.putfield 162, 3) := by decide +kernel
theorem dX4_plans_5 : decode cX4_plans 5 = .ok (.iconst 0, 1) := by decide +kernel
theorem dX4_plans_6 : decode cX4_plans 6 = .ok (.istore_n 1, 1) := by decide +kernel
theorem dX4_plans_7 : decode cX4_plans 7 = .ok (.iload_n 1, 1) := by decide +kernel
theorem dX4_plans_8 : decode cX4_plans 8 = .ok (.aload_n 0, 1) := by decide +kernel
theorem dX4_plans_9 : decode cX4_plans 9 = .ok (.getfield 141, 3) := by decide +kernel
theorem dX4_plans_12 : decode cX4_plans 12 = .ok (.if_icmp .ge 49, 3) := by decide +kernel
theorem dX4_plans_15 : decode cX4_plans 15 = .ok (.aload_n 0, 1) := by decide +kernel
theorem dX4_plans_16 : decode cX4_plans 16 = .ok (.getfield 162, 3) := by decide +kernel
theorem dX4_plans_19 : decode cX4_plans 19 = .ok (.bipush 7, 2) := by decide +kernel
theorem dX4_plans_21 : decode cX4_plans 21 = .ok (.if_icmp .ge 40, 3) := by decide +kernel
theorem dX4_plans_24 : decode cX4_plans 24 = .ok (.aload_n 0, 1) := by decide +kernel
theorem dX4_plans_25 : decode cX4_plans 25 = .ok (.iload_n 1, 1) := by decide +kernel
theorem dX4_plans_26 : decode cX4_plans 26 = .ok (.invokevirtual 156, 3) := by decide +kernel
theorem dX4_plans_29 : decode cX4_plans 29 = .ok (.ifCond .ne 6, 3) := by decide +kernel
theorem dX4_plans_32 : decode cX4_plans 32 = .ok (.goto 23, 3) := by decide +kernel
theorem dX4_plans_35 : decode cX4_plans 35 = .ok (.aload_n 0, 1) := by decide +kernel
theorem dX4_plans_36 : decode cX4_plans 36 = .ok (.getfield 49, 3) := by decide +kernel
theorem dX4_plans_39 : decode cX4_plans 39 = .ok (.aload_n 0, 1) := by decide +kernel
theorem dX4_plans_40 : decode cX4_plans 40 = .ok (.getfield 162, 3) := by decide +kernel
theorem dX4_plans_43 : decode cX4_plans 43 = .ok (.iload_n 1, 1) := by decide +kernel
theorem dX4_plans_44 : decode cX4_plans 44 = .ok (.iastore, 1) := by decide +kernel
theorem dX4_plans_45 : decode cX4_plans 45 = .ok (.aload_n 0, 1) := by decide +kernel
theorem dX4_plans_46 : decode cX4_plans 46 = .ok (.dup, 1) := by decide +kernel
theorem dX4_plans_47 : decode cX4_plans 47 = .ok (.getfield 162, 3) := by decide +kernel
theorem dX4_plans_50 : decode cX4_plans 50 = .ok (.iconst 1, 1) := by decide +kernel
theorem dX4_plans_51 : decode cX4_plans 51 = .ok (.iadd, 1) := by decide +kernel
theorem dX4_plans_52 : decode cX4_plans 52 = .ok (.putfield 162, 3) := by decide +kernel
theorem dX4_plans_55 : decode cX4_plans 55 = .ok (.iinc 1 1, 3) := by decide +kernel
theorem dX4_plans_58 : decode cX4_plans 58 = .ok (.goto (-51), 3) := by decide +kernel
theorem dX4_plans_61 : decode cX4_plans 61 = .ok (.aload_n 0, 1) := by decide +kernel
theorem dX4_plans_62 : decode cX4_plans 62 = .ok (.ldc2_w 165, 3) := by decide +kernel
theorem dX4_plans_65 : decode cX4_plans 65 = .ok (.putfield 167, 3) := by decide +kernel
theorem dX4_plans_68 : decode cX4_plans 68 = .ok (.iconst 0, 1) := by decide +kernel
theorem dX4_plans_69 : decode cX4_plans 69 = .ok (.istore_n 1, 1) := by decide +kernel
theorem dX4_plans_70 : decode cX4_plans 70 = .ok (.iload_n 1, 1) := by decide +kernel
theorem dX4_plans_71 : decode cX4_plans 71 = .ok (.aload_n 0, 1) := by decide +kernel
theorem dX4_plans_72 : decode cX4_plans 72 = .ok (.getfield 162, 3) := by decide +kernel
theorem dX4_plans_75 : decode cX4_plans 75 = .ok (.if_icmp .ge 16, 3) := by decide +kernel
theorem dX4_plans_78 : decode cX4_plans 78 = .ok (.aload_n 0, 1) := by decide +kernel
theorem dX4_plans_79 : decode cX4_plans 79 = .ok (.getfield 52, 3) := by decide +kernel
theorem dX4_plans_82 : decode cX4_plans 82 = .ok (.iload_n 1, 1) := by decide +kernel
theorem dX4_plans_83 : decode cX4_plans 83 = .ok (.iload_n 1, 1) := by decide +kernel
theorem dX4_plans_84 : decode cX4_plans 84 = .ok (.iastore, 1) := by decide +kernel
theorem dX4_plans_85 : decode cX4_plans 85 = .ok (.iinc 1 1, 3) := by decide +kernel
theorem dX4_plans_88 : decode cX4_plans 88 = .ok (.goto (-18), 3) := by decide +kernel
theorem dX4_plans_91 : decode cX4_plans 91 = .ok (.aload_n 0, 1) := by decide +kernel
theorem dX4_plans_92 : decode cX4_plans 92 = .ok (.getfield 162, 3) := by decide +kernel
theorem dX4_plans_95 : decode cX4_plans 95 = .ok (.ifCond .le 7, 3) := by decide +kernel
theorem dX4_plans_98 : decode cX4_plans 98 = .ok (.iconst 1, 1) := by decide +kernel
theorem dX4_plans_99 : decode cX4_plans 99 = .ok (.goto 4, 3) := by decide +kernel
theorem dX4_plans_102 : decode cX4_plans 102 = .ok (.iconst 0, 1) := by decide +kernel
theorem dX4_plans_103 : decode cX4_plans 103 = .ok (.istore_n 1, 1) := by decide +kernel
theorem dX4_plans_104 : decode cX4_plans 104 = .ok (.iload_n 1, 1) := by decide +kernel
theorem dX4_plans_105 : decode cX4_plans 105 = .ok (.ifCond .eq 223, 3) := by decide +kernel
theorem dX4_plans_108 : decode cX4_plans 108 = .ok (.aload_n 0, 1) := by decide +kernel
theorem dX4_plans_109 : decode cX4_plans 109 = .ok (.invokevirtual 171, 3) := by decide +kernel
theorem dX4_plans_112 : decode cX4_plans 112 = .ok (.lstore_n 2, 1) := by decide +kernel
theorem dX4_plans_113 : decode cX4_plans 113 = .ok (.aload_n 0, 1) := by decide +kernel
theorem dX4_plans_114 : decode cX4_plans 114 = .ok (.getfield 167, 3) := by decide +kernel
theorem dX4_plans_117 : decode cX4_plans 117 = .ok (.lconst 0, 1) := by decide +kernel
theorem dX4_plans_118 : decode cX4_plans 118 = .ok (.lcmp, 1) := by decide +kernel
theorem dX4_plans_119 : decode cX4_plans 119 = .ok (.ifCond .lt 12, 3) := by decide +kernel
theorem dX4_plans_122 : decode cX4_plans 122 = .ok (.lload_n 2, 1) := by decide +kernel
theorem dX4_plans_123 : decode cX4_plans 123 = .ok (.aload_n 0, 1) := by decide +kernel
theorem dX4_plans_124 : decode cX4_plans 124 = .ok (.getfield 167, 3) := by decide +kernel
theorem dX4_plans_127 : decode cX4_plans 127 = .ok (.lcmp, 1) := by decide +kernel
theorem dX4_plans_128 : decode cX4_plans 128 = .ok (.ifCond .ge 40, 3) := by decide +kernel
theorem dX4_plans_131 : decode cX4_plans 131 = .ok (.aload_n 0, 1) := by decide +kernel
theorem dX4_plans_132 : decode cX4_plans 132 = .ok (.lload_n 2, 1) := by decide +kernel
theorem dX4_plans_133 : decode cX4_plans 133 = .ok (.putfield 167, 3) := by decide +kernel
theorem dX4_plans_136 : decode cX4_plans 136 = .ok (.iconst 0, 1) := by decide +kernel
theorem dX4_plans_137 : decode cX4_plans 137 = .ok (.istore 4, 2) := by decide +kernel
theorem dX4_plans_139 : decode cX4_plans 139 = .ok (.iload 4, 2) := by decide +kernel
theorem dX4_plans_141 : decode cX4_plans 141 = .ok (.aload_n 0, 1) := by decide +kernel
theorem dX4_plans_142 : decode cX4_plans 142 = .ok (.getfield 162, 3) := by decide +kernel
theorem dX4_plans_145 : decode cX4_plans 145 = .ok (.if_icmp .ge 23, 3) := by decide +kernel
theorem dX4_plans_148 : decode cX4_plans 148 = .ok (.aload_n 0, 1) := by decide +kernel
theorem dX4_plans_149 : decode cX4_plans 149 = .ok (.getfield 55, 3) := by decide +kernel
theorem dX4_plans_152 : decode cX4_plans 152 = .ok (.iload 4, 2) := by decide +kernel
theorem dX4_plans_154 : decode cX4_plans 154 = .ok (.aload_n 0, 1) := by decide +kernel
theorem dX4_plans_155 : decode cX4_plans 155 = .ok (.getfield 52, 3) := by decide +kernel
theorem dX4_plans_158 : decode cX4_plans 158 = .ok (.iload 4, 2) := by decide +kernel
theorem dX4_plans_160 : decode cX4_plans 160 = .ok (.iaload, 1) := by decide +kernel
theorem dX4_plans_161 : decode cX4_plans 161 = .ok (.iastore, 1) := by decide +kernel
theorem dX4_plans_162 : decode cX4_plans 162 = .ok (.iinc 4 1, 3) := by decide +kernel
theorem dX4_plans_165 : decode cX4_plans 165 = .ok (.goto (-26), 3) := by decide +kernel
theorem dX4_plans_168 : decode cX4_plans 168 = .ok (.aload_n 0, 1) := by decide +kernel
theorem dX4_plans_169 : decode cX4_plans 169 = .ok (.getfield 162, 3) := by decide +kernel
theorem dX4_plans_172 : decode cX4_plans 172 = .ok (.iconst 1, 1) := by decide +kernel
theorem dX4_plans_173 : decode cX4_plans 173 = .ok (.isub, 1) := by decide +kernel
theorem dX4_plans_174 : decode cX4_plans 174 = .ok (.istore 4, 2) := by decide +kernel
theorem dX4_plans_176 : decode cX4_plans 176 = .ok (.aload_n 0, 1) := by decide +kernel
theorem dX4_plans_177 : decode cX4_plans 177 = .ok (.getfield 162, 3) := by decide +kernel
theorem dX4_plans_180 : decode cX4_plans 180 = .ok (.istore 5, 2) := by decide +kernel
theorem dX4_plans_182 : decode cX4_plans 182 = .ok (.iload 4, 2) := by decide +kernel
theorem dX4_plans_184 : decode cX4_plans 184 = .ok (.ifCond .lt 64, 3) := by decide +kernel
theorem dX4_plans_187 : decode cX4_plans 187 = .ok (.iload 5, 2) := by decide +kernel
theorem dX4_plans_189 : decode cX4_plans 189 = .ok (.aload_n 0, 1) := by decide +kernel
theorem dX4_plans_190 : decode cX4_plans 190 = .ok (.getfield 162, 3) := by decide +kernel
theorem dX4_plans_193 : decode cX4_plans 193 = .ok (.if_icmp .ne 55, 3) := by decide +kernel
theorem dX4_plans_196 : decode cX4_plans 196 = .ok (.aload_n 0, 1) := by decide +kernel
theorem dX4_plans_197 : decode cX4_plans 197 = .ok (.getfield 52, 3) := by decide +kernel
theorem dX4_plans_200 : decode cX4_plans 200 = .ok (.iload 4, 2) := by decide +kernel
theorem dX4_plans_202 : decode cX4_plans 202 = .ok (.iaload, 1) := by decide +kernel
theorem dX4_plans_203 : decode cX4_plans 203 = .ok (.iconst 1, 1) := by decide +kernel
theorem dX4_plans_204 : decode cX4_plans 204 = .ok (.iadd, 1) := by decide +kernel
theorem dX4_plans_205 : decode cX4_plans 205 = .ok (.istore 5, 2) := by decide +kernel
theorem dX4_plans_207 : decode cX4_plans 207 = .ok (.iload 5, 2) := by decide +kernel
theorem dX4_plans_209 : decode cX4_plans 209 = .ok (.aload_n 0, 1) := by decide +kernel
theorem dX4_plans_210 : decode cX4_plans 210 = .ok (.getfield 162, 3) := by decide +kernel
theorem dX4_plans_213 : decode cX4_plans 213 = .ok (.if_icmp .ge 20, 3) := by decide +kernel
theorem dX4_plans_216 : decode cX4_plans 216 = .ok (.aload_n 0, 1) := by decide +kernel
theorem dX4_plans_217 : decode cX4_plans 217 = .ok (.iload 4, 2) := by decide +kernel
theorem dX4_plans_219 : decode cX4_plans 219 = .ok (.iload 5, 2) := by decide +kernel
theorem dX4_plans_221 : decode cX4_plans 221 = .ok (.invokevirtual 175, 3) := by decide +kernel
theorem dX4_plans_224 : decode cX4_plans 224 = .ok (.ifCond .eq 9, 3) := by decide +kernel
theorem dX4_plans_227 : decode cX4_plans 227 = .ok (.iinc 5 1, 3) := by decide +kernel
theorem dX4_plans_230 : decode cX4_plans 230 = .ok (.goto (-23), 3) := by decide +kernel
theorem dX4_plans_233 : decode cX4_plans 233 = .ok (.iload 5, 2) := by decide +kernel
theorem dX4_plans_235 : decode cX4_plans 235 = .ok (.aload_n 0, 1) := by decide +kernel
theorem dX4_plans_236 : decode cX4_plans 236 = .ok (.getfield 162, 3) := by decide +kernel
theorem dX4_plans_239 : decode cX4_plans 239 = .ok (.if_icmp .ne (-57), 3) := by decide +kernel
theorem dX4_plans_242 : decode cX4_plans 242 = .ok (.iinc 4 (-1), 3) := by decide +kernel
theorem dX4_plans_245 : decode cX4_plans 245 = .ok (.goto (-63), 3) := by decide +kernel
theorem dX4_plans_248 : decode cX4_plans 248 = .ok (.iload 4, 2) := by decide +kernel
theorem dX4_plans_250 : decode cX4_plans 250 = .ok (.ifCond .lt 7, 3) := by decide +kernel
theorem dX4_plans_253 : decode cX4_plans 253 = .ok (.iconst 1, 1) := by decide +kernel
theorem dX4_plans_254 : decode cX4_plans 254 = .ok (.goto 4, 3) := by decide +kernel
theorem dX4_plans_257 : decode cX4_plans 257 = .ok (.iconst 0, 1) := by decide +kernel
theorem dX4_plans_258 : decode cX4_plans 258 = .ok (.istore_n 1, 1) := by decide +kernel
theorem dX4_plans_259 : decode cX4_plans 259 = .ok (.iload_n 1, 1) := by decide +kernel
theorem dX4_plans_260 : decode cX4_plans 260 = .ok (.ifCond .ne 6, 3) := by decide +kernel
theorem dX4_plans_263 : decode cX4_plans 263 = .ok (.goto (-159), 3) := by decide +kernel
theorem dX4_plans_266 : decode cX4_plans 266 = .ok (.aload_n 0, 1) := by decide +kernel
theorem dX4_plans_267 : decode cX4_plans 267 = .ok (.getfield 52, 3) := by decide +kernel
theorem dX4_plans_270 : decode cX4_plans 270 = .ok (.iload 4, 2) := by decide +kernel
theorem dX4_plans_272 : decode cX4_plans 272 = .ok (.iload 5, 2) := by decide +kernel
theorem dX4_plans_274 : decode cX4_plans 274 = .ok (.iastore, 1) := by decide +kernel
theorem dX4_plans_275 : decode cX4_plans 275 = .ok (.iload 4, 2) := by decide +kernel
theorem dX4_plans_277 : decode cX4_plans 277 = .ok (.iconst 1, 1) := by decide +kernel
theorem dX4_plans_278 : decode cX4_plans 278 = .ok (.iadd, 1) := by decide +kernel
theorem dX4_plans_279 : decode cX4_plans 279 = .ok (.istore 6, 2) := by decide +kernel
theorem dX4_plans_281 : decode cX4_plans 281 = .ok (.iload 6, 2) := by decide +kernel
theorem dX4_plans_283 : decode cX4_plans 283 = .ok (.aload_n 0, 1) := by decide +kernel
theorem dX4_plans_284 : decode cX4_plans 284 = .ok (.getfield 162, 3) := by decide +kernel
theorem dX4_plans_287 : decode cX4_plans 287 = .ok (.if_icmp .ge 38, 3) := by decide +kernel
theorem dX4_plans_290 : decode cX4_plans 290 = .ok (.iconst 0, 1) := by decide +kernel
theorem dX4_plans_291 : decode cX4_plans 291 = .ok (.istore 7, 2) := by decide +kernel
theorem dX4_plans_293 : decode cX4_plans 293 = .ok (.aload_n 0, 1) := by decide +kernel
theorem dX4_plans_294 : decode cX4_plans 294 = .ok (.iload 6, 2) := by decide +kernel
theorem dX4_plans_296 : decode cX4_plans 296 = .ok (.iload 7, 2) := by decide +kernel
theorem dX4_plans_298 : decode cX4_plans 298 = .ok (.invokevirtual 175, 3) := by decide +kernel
theorem dX4_plans_301 : decode cX4_plans 301 = .ok (.ifCond .eq 9, 3) := by decide +kernel
theorem dX4_plans_304 : decode cX4_plans 304 = .ok (.iinc 7 1, 3) := by decide +kernel
theorem dX4_plans_307 : decode cX4_plans 307 = .ok (.goto (-14), 3) := by decide +kernel
theorem dX4_plans_310 : decode cX4_plans 310 = .ok (.aload_n 0, 1) := by decide +kernel
theorem dX4_plans_311 : decode cX4_plans 311 = .ok (.getfield 52, 3) := by decide +kernel
theorem dX4_plans_314 : decode cX4_plans 314 = .ok (.iload 6, 2) := by decide +kernel
theorem dX4_plans_316 : decode cX4_plans 316 = .ok (.iload 7, 2) := by decide +kernel
theorem dX4_plans_318 : decode cX4_plans 318 = .ok (.iastore, 1) := by decide +kernel
theorem dX4_plans_319 : decode cX4_plans 319 = .ok (.iinc 6 1, 3) := by decide +kernel
theorem dX4_plans_322 : decode cX4_plans 322 = .ok (.goto (-41), 3) := by decide +kernel
theorem dX4_plans_325 : decode cX4_plans 325 = .ok (.goto (-221), 3) := by decide +kernel
theorem dX4_plans_328 : decode cX4_plans 328 = .ok (.return_, 1) := by decide +kernel
set_option maxRecDepth 20000 in
theorem ggX4_plan_X4_plans : GoodIn wsX4_plan wsX4_plans := goodIn_r _ [8, 2, 9, 10, 11, 3, 12, 13, 14, 15, 16, 7, 17, 18, 19, 20, 21, 22, 23, 24, 25, 26, 27, 28, 29, 30, 31, 32, 33, 34, 35, 36, 37, 38, 39, 40, 41, 42, 43, 44, 45, 46, 47, 48, 49, 50, 51, 52, 53, 54, 55, 56, 57, 58, 59] (by decide +kernel) (by decide +kernel)
set_option maxRecDepth 20000 in
theorem gX4_plan_X4_plans : GoodIn wsX4_plan (wsV RX4 179 RX4 yX4_plans wsX4_plans) := goodIn_app (goodIn_of _ (by decide +kernel)) ggX4_plan_X4_plans
theorem dX4_plan_0 : decode cX4_plan 0 = .ok (.aload_n 0, 1) := by decide +kernel
theorem dX4_plan_1 : decode cX4_plan 1 = .ok (.iconst 0, 1) := by decide +kernel
theorem dX4_plan_2 : decode cX4_plan 2 = .ok (.putfield 61, 3) := by decide +kernel
theorem dX4_plan_5 : decode cX4_plan 5 = .ok (.aload_n 0, 1) := by decide +kernel
theorem dX4_plan_6 : decode cX4_plan 6 = .ok (.invokevirtual 179, 3) := by decide +kernel
theorem dX4_plan_9 : decode cX4_plan 9 = .ok (.aload_n 0, 1) := by decide +kernel
theorem dX4_plan_10 : decode cX4_plan 10 = .ok (.getfield 162, 3) := by decide +kernel
theorem dX4_plan_13 : decode cX4_plan 13 = .ok (.ifCond .ne 7, 3) := by decide +kernel
theorem dX4_plan_16 : decode cX4_plan 16 = .ok (.lconst 0, 1) := by decide +kernel
theorem dX4_plan_17 : decode cX4_plan 17 = .ok (.goto 7, 3) := by decide +kernel
theorem dX4_plan_20 : decode cX4_plan 20 = .ok (.aload_n 0, 1) := by decide +kernel
theorem dX4_plan_21 : decode cX4_plan 21 = .ok (.getfield 167, 3) := by decide +kernel
theorem dX4_plan_24 : decode cX4_plan 24 = .ok (.lreturn, 1) := by decide +kernel
set_option maxRecDepth 20000 in
theorem ggX4_planned_X4_plans : GoodIn wsX4_planned wsX4_plans := goodIn_r _ [9, 2, 10, 3, 11, 12, 13, 4, 14, 15, 16, 8, 17, 18, 19, 20, 21, 22, 23, 24, 25, 26, 27, 28, 29, 30, 31, 32, 33, 34, 35, 36, 37, 38, 39, 40, 41, 42, 43, 44, 45, 46, 47, 48, 49, 50, 51, 52, 53, 54, 55, 56, 57, 58, 59] (by decide +kernel) (by decide +kernel)
set_option maxRecDepth 20000 in
theorem gX4_planned_X4_plans : GoodIn wsX4_planned (wsV RX4 179 RX4 yX4_plans wsX4_plans) := goodIn_app (goodIn_of _ (by decide +kernel)) ggX4_planned_X4_plans
theorem dX4_planned_0 : decode cX4_planned 0 = .ok (.aload_n 0, 1) := by decide +kernel
theorem dX4_planned_1 : decode cX4_planned 1 = .ok (.iconst 0, 1) := by decide +kernel
theorem dX4_planned_2 : decode cX4_planned 2 = .ok (.putfield 61, 3) := by decide +kernel
theorem dX4_planned_5 : decode cX4_planned 5 = .ok (.aload_n 0, 1) := by decide +kernel
theorem dX4_planned_6 : decode cX4_planned 6 = .ok (.invokevirtual 179, 3) := by decide +kernel
theorem dX4_planned_9 : decode cX4_planned 9 = .ok (.iload_n 1, 1) := by decide +kernel
theorem dX4_planned_10 : decode cX4_planned 10 = .ok (.ifCond .lt 25, 3) := by decide +kernel
theorem dX4_planned_13 : decode cX4_planned 13 = .ok (.iload_n 1, 1) := by decide +kernel
theorem dX4_planned_14 : decode cX4_planned 14 = .ok (.aload_n 0, 1) := by decide +kernel
theorem dX4_planned_15 : decode cX4_planned 15 = .ok (.getfield 162, 3) := by decide +kernel
theorem dX4_planned_18 : decode cX4_planned 18 = .ok (.if_icmp .ge 17, 3) := by decide +kernel
theorem dX4_planned_21 : decode cX4_planned 21 = .ok (.aload_n 0, 1) := by decide +kernel
theorem dX4_planned_22 : decode cX4_planned 22 = .ok (.getfield 49, 3) := by decide +kernel
theorem dX4_planned_25 : decode cX4_planned 25 = .ok (.aload_n 0, 1) := by decide +kernel
theorem dX4_planned_26 : decode cX4_planned 26 = .ok (.getfield 55, 3) := by decide +kernel
theorem dX4_planned_29 : decode cX4_planned 29 = .ok (.iload_n 1, 1) := by decide +kernel
theorem dX4_planned_30 : decode cX4_planned 30 = .ok (.iaload, 1) := by decide +kernel
theorem dX4_planned_31 : decode cX4_planned 31 = .ok (.iaload, 1) := by decide +kernel
theorem dX4_planned_32 : decode cX4_planned 32 = .ok (.goto 4, 3) := by decide +kernel
theorem dX4_planned_35 : decode cX4_planned 35 = .ok (.iconst (-1), 1) := by decide +kernel
theorem dX4_planned_36 : decode cX4_planned 36 = .ok (.ireturn, 1) := by decide +kernel
set_option maxRecDepth 20000 in
theorem ggX4_run_X4_plans : GoodIn wsX4_run wsX4_plans := goodIn_r _ [9, 2, 10, 3, 11, 12, 13, 4, 14, 15, 16, 8, 17, 18, 19, 20, 21, 22, 23, 24, 25, 26, 27, 28, 29, 30, 31, 38, 39, 40, 41, 42, 43, 44, 45, 46, 47, 48, 49, 50, 51, 52, 53, 54, 55, 56, 57, 58, 59, 60, 61, 62, 63, 64, 65] (by decide +kernel) (by decide +kernel)
set_option maxRecDepth 20000 in
theorem gX4_run_X4_plans : GoodIn wsX4_run (wsV RX4 179 RX4 yX4_plans wsX4_plans) := goodIn_app (goodIn_of _ (by decide +kernel)) ggX4_run_X4_plans
set_option maxRecDepth 20000 in
theorem ggX4_run_X4_goes : GoodIn wsX4_run wsX4_goes := goodIn_r _ [35, 18, 27, 23, 26, 36, 37, 38, 39, 40, 41, 42, 43, 44, 45, 46, 47, 48, 49, 50, 51, 52, 53, 54, 55, 56, 57, 58, 59, 60, 61, 62, 63, 64, 65] (by decide +kernel) (by decide +kernel)
set_option maxRecDepth 20000 in
theorem gX4_run_X4_goes : GoodIn wsX4_run (wsV RX4 159 RX4 yX4_goes wsX4_goes) := goodIn_app (goodIn_of _ (by decide +kernel)) ggX4_run_X4_goes
theorem dX4_run_0 : decode cX4_run 0 = .ok (.aload_n 0, 1) := by decide +kernel
theorem dX4_run_1 : decode cX4_run 1 = .ok (.iconst 0, 1) := by decide +kernel
theorem dX4_run_2 : decode cX4_run 2 = .ok (.putfield 61, 3) := by decide +kernel
theorem dX4_run_5 : decode cX4_run 5 = .ok (.aload_n 0, 1) := by decide +kernel
theorem dX4_run_6 : decode cX4_run 6 = .ok (.invokevirtual 179, 3) := by decide +kernel
theorem dX4_run_9 : decode cX4_run 9 = .ok (.iconst 0, 1) := by decide +kernel
theorem dX4_run_10 : decode cX4_run 10 = .ok (.istore_n 1, 1) := by decide +kernel
theorem dX4_run_11 : decode cX4_run 11 = .ok (.iload_n 1, 1) := by decide +kernel
theorem dX4_run_12 : decode cX4_run 12 = .ok (.aload_n 0, 1) := by decide +kernel
theorem dX4_run_13 : decode cX4_run 13 = .ok (.getfield 162, 3) := by decide +kernel
theorem dX4_run_16 : decode cX4_run 16 = .ok (.if_icmp .ge 25, 3) := by decide +kernel
theorem dX4_run_19 : decode cX4_run 19 = .ok (.aload_n 0, 1) := by decide +kernel
theorem dX4_run_20 : decode cX4_run 20 = .ok (.aload_n 0, 1) := by decide +kernel
theorem dX4_run_21 : decode cX4_run 21 = .ok (.getfield 49, 3) := by decide +kernel
theorem dX4_run_24 : decode cX4_run 24 = .ok (.aload_n 0, 1) := by decide +kernel
theorem dX4_run_25 : decode cX4_run 25 = .ok (.getfield 55, 3) := by decide +kernel
theorem dX4_run_28 : decode cX4_run 28 = .ok (.iload_n 1, 1) := by decide +kernel
theorem dX4_run_29 : decode cX4_run 29 = .ok (.iaload, 1) := by decide +kernel
theorem dX4_run_30 : decode cX4_run 30 = .ok (.iaload, 1) := by decide +kernel
theorem dX4_run_31 : decode cX4_run 31 = .ok (.invokevirtual 159, 3) := by decide +kernel
theorem dX4_run_34 : decode cX4_run 34 = .ok (.pop, 1) := by decide +kernel
theorem dX4_run_35 : decode cX4_run 35 = .ok (.iinc 1 1, 3) := by decide +kernel
theorem dX4_run_38 : decode cX4_run 38 = .ok (.goto (-27), 3) := by decide +kernel
theorem dX4_run_41 : decode cX4_run 41 = .ok (.aload_n 0, 1) := by decide +kernel
theorem dX4_run_42 : decode cX4_run 42 = .ok (.getfield 162, 3) := by decide +kernel
theorem dX4_run_45 : decode cX4_run 45 = .ok (.ireturn, 1) := by decide +kernel
set_option maxRecDepth 20000 in
theorem ggX4_late_X4_waits : GoodIn wsX4_late wsX4_waits := goodIn_r _ [9, 4, 10, 11, 12, 13, 14, 15, 16, 17, 18, 19, 20, 21, 22, 23, 24, 25, 26, 27, 28, 29, 30, 31, 32, 33, 34, 35, 36, 37] (by decide +kernel) (by decide +kernel)
set_option maxRecDepth 20000 in
theorem gX4_late_X4_waits : GoodIn wsX4_late (wsV RX4 156 RX4 yX4_waits wsX4_waits) := goodIn_app (goodIn_of _ (by decide +kernel)) ggX4_late_X4_waits
theorem dX4_late_0 : decode cX4_late 0 = .ok (.aload_n 0, 1) := by decide +kernel
theorem dX4_late_1 : decode cX4_late 1 = .ok (.iconst 0, 1) := by decide +kernel
theorem dX4_late_2 : decode cX4_late 2 = .ok (.putfield 61, 3) := by decide +kernel
theorem dX4_late_5 : decode cX4_late 5 = .ok (.iload_n 1, 1) := by decide +kernel
theorem dX4_late_6 : decode cX4_late 6 = .ok (.istore_n 2, 1) := by decide +kernel
theorem dX4_late_7 : decode cX4_late 7 = .ok (.iconst 0, 1) := by decide +kernel
theorem dX4_late_8 : decode cX4_late 8 = .ok (.istore_n 3, 1) := by decide +kernel
theorem dX4_late_9 : decode cX4_late 9 = .ok (.iload_n 3, 1) := by decide +kernel
theorem dX4_late_10 : decode cX4_late 10 = .ok (.aload_n 0, 1) := by decide +kernel
theorem dX4_late_11 : decode cX4_late 11 = .ok (.getfield 141, 3) := by decide +kernel
theorem dX4_late_14 : decode cX4_late 14 = .ok (.if_icmp .ge 71, 3) := by decide +kernel
theorem dX4_late_17 : decode cX4_late 17 = .ok (.iload_n 1, 1) := by decide +kernel
theorem dX4_late_18 : decode cX4_late 18 = .ok (.ifCond .lt 67, 3) := by decide +kernel
theorem dX4_late_21 : decode cX4_late 21 = .ok (.aload_n 0, 1) := by decide +kernel
theorem dX4_late_22 : decode cX4_late 22 = .ok (.iload_n 3, 1) := by decide +kernel
theorem dX4_late_23 : decode cX4_late 23 = .ok (.invokevirtual 156, 3) := by decide +kernel
theorem dX4_late_26 : decode cX4_late 26 = .ok (.ifCond .eq 10, 3) := by decide +kernel
theorem dX4_late_29 : decode cX4_late 29 = .ok (.aload_n 0, 1) := by decide +kernel
theorem dX4_late_30 : decode cX4_late 30 = .ok (.getfield 150, 3) := by decide +kernel
theorem dX4_late_33 : decode cX4_late 33 = .ok (.goto 15, 3) := by decide +kernel
theorem dX4_late_36 : decode cX4_late 36 = .ok (.aload_n 0, 1) := by decide +kernel
theorem dX4_late_37 : decode cX4_late 37 = .ok (.getfield 40, 3) := by decide +kernel
theorem dX4_late_40 : decode cX4_late 40 = .ok (.bipush 12, 2) := by decide +kernel
theorem dX4_late_42 : decode cX4_late 42 = .ok (.iload_n 3, 1) := by decide +kernel
theorem dX4_late_43 : decode cX4_late 43 = .ok (.imul, 1) := by decide +kernel
theorem dX4_late_44 : decode cX4_late 44 = .ok (.bipush 10, 2) := by decide +kernel
theorem dX4_late_46 : decode cX4_late 46 = .ok (.iadd, 1) := by decide +kernel
theorem dX4_late_47 : decode cX4_late 47 = .ok (.iaload, 1) := by decide +kernel
theorem dX4_late_48 : decode cX4_late 48 = .ok (.istore 4, 2) := by decide +kernel
theorem dX4_late_50 : decode cX4_late 50 = .ok (.iload 4, 2) := by decide +kernel
theorem dX4_late_52 : decode cX4_late 52 = .ok (.aload_n 0, 1) := by decide +kernel
theorem dX4_late_53 : decode cX4_late 53 = .ok (.getfield 40, 3) := by decide +kernel
theorem dX4_late_56 : decode cX4_late 56 = .ok (.bipush 12, 2) := by decide +kernel
theorem dX4_late_58 : decode cX4_late 58 = .ok (.iload_n 3, 1) := by decide +kernel
theorem dX4_late_59 : decode cX4_late 59 = .ok (.imul, 1) := by decide +kernel
theorem dX4_late_60 : decode cX4_late 60 = .ok (.bipush 6, 2) := by decide +kernel
theorem dX4_late_62 : decode cX4_late 62 = .ok (.iadd, 1) := by decide +kernel
theorem dX4_late_63 : decode cX4_late 63 = .ok (.iaload, 1) := by decide +kernel
theorem dX4_late_64 : decode cX4_late 64 = .ok (.if_icmp .gt 6, 3) := by decide +kernel
theorem dX4_late_67 : decode cX4_late 67 = .ok (.goto 12, 3) := by decide +kernel
theorem dX4_late_70 : decode cX4_late 70 = .ok (.iload_n 2, 1) := by decide +kernel
theorem dX4_late_71 : decode cX4_late 71 = .ok (.ifCond .ne 5, 3) := by decide +kernel
theorem dX4_late_74 : decode cX4_late 74 = .ok (.iload_n 3, 1) := by decide +kernel
theorem dX4_late_75 : decode cX4_late 75 = .ok (.ireturn, 1) := by decide +kernel
theorem dX4_late_76 : decode cX4_late 76 = .ok (.iinc 2 (-1), 3) := by decide +kernel
theorem dX4_late_79 : decode cX4_late 79 = .ok (.iinc 3 1, 3) := by decide +kernel
theorem dX4_late_82 : decode cX4_late 82 = .ok (.goto (-73), 3) := by decide +kernel
theorem dX4_late_85 : decode cX4_late 85 = .ok (.iconst (-1), 1) := by decide +kernel
theorem dX4_late_86 : decode cX4_late 86 = .ok (.ireturn, 1) := by decide +kernel
set_option maxRecDepth 20000 in
theorem ggX4_fit_X4_isOrder : GoodIn wsX4_fit wsX4_isOrder := goodIn_r _ [9, 10, 11, 20, 21, 22, 23, 24, 25, 26, 27, 28, 29, 30, 31, 32, 33, 34, 35, 36, 37, 38, 39, 40, 41, 42, 43, 44, 45, 46, 47] (by decide +kernel) (by decide +kernel)
set_option maxRecDepth 20000 in
theorem gX4_fit_X4_isOrder : GoodIn wsX4_fit (wsV RX4 147 RX4 yX4_isOrder wsX4_isOrder) := goodIn_app (goodIn_of _ (by decide +kernel)) ggX4_fit_X4_isOrder
set_option maxRecDepth 20000 in
theorem ggX4_fit_X4_bad : GoodIn wsX4_fit wsX4_bad := goodIn_r _ [15, 11, 20, 21, 22, 23, 24, 25, 26, 27, 28, 29, 30, 31, 32, 33, 34, 35, 36, 37, 38, 39, 40, 41, 42, 43, 44, 45, 46, 47] (by decide +kernel) (by decide +kernel)
set_option maxRecDepth 20000 in
theorem gX4_fit_X4_bad : GoodIn wsX4_fit (wsV RX4 64 RX4 yX4_bad wsX4_bad) := goodIn_app (goodIn_of _ (by decide +kernel)) ggX4_fit_X4_bad
set_option maxRecDepth 20000 in
theorem ggX4_fit_X4_waits : GoodIn wsX4_fit wsX4_waits := goodIn_r _ [19, 1, 20, 21, 22, 23, 24, 25, 26, 27, 28, 29, 30, 31, 32, 33, 34, 35, 36, 37, 38, 39, 40, 41, 42, 43, 44, 45, 46, 47] (by decide +kernel) (by decide +kernel)
set_option maxRecDepth 20000 in
theorem gX4_fit_X4_waits : GoodIn wsX4_fit (wsV RX4 156 RX4 yX4_waits wsX4_waits) := goodIn_app (goodIn_of _ (by decide +kernel)) ggX4_fit_X4_waits
theorem dX4_fit_0 : decode cX4_fit 0 = .ok (.aload_n 0, 1) := by decide +kernel
theorem dX4_fit_1 : decode cX4_fit 1 = .ok (.iload_n 1, 1) := by decide +kernel
theorem dX4_fit_2 : decode cX4_fit 2 = .ok (.invokevirtual 147, 3) := by decide +kernel
theorem dX4_fit_5 : decode cX4_fit 5 = .ok (.ifCond .eq 27, 3) := by decide +kernel
theorem dX4_fit_8 : decode cX4_fit 8 = .ok (.aload_n 0, 1) := by decide +kernel
theorem dX4_fit_9 : decode cX4_fit 9 = .ok (.iload_n 2, 1) := by decide +kernel
theorem dX4_fit_10 : decode cX4_fit 10 = .ok (.bipush (-2), 2) := by decide +kernel
theorem dX4_fit_12 : decode cX4_fit 12 = .ok (.if_icmp .lt 8, 3) := by decide +kernel
theorem dX4_fit_15 : decode cX4_fit 15 = .ok (.iload_n 2, 1) := by decide +kernel
theorem dX4_fit_16 : decode cX4_fit 16 = .ok (.iconst 2, 1) := by decide +kernel
theorem dX4_fit_17 : decode cX4_fit 17 = .ok (.if_icmp .le 7, 3) := by decide +kernel
theorem dX4_fit_20 : decode cX4_fit 20 = .ok (.iconst 1, 1) := by decide +kernel
theorem dX4_fit_21 : decode cX4_fit 21 = .ok (.goto 4, 3) := by decide +kernel
theorem dX4_fit_24 : decode cX4_fit 24 = .ok (.iconst 0, 1) := by decide +kernel
theorem dX4_fit_25 : decode cX4_fit 25 = .ok (.iconst 2, 1) := by decide +kernel
theorem dX4_fit_26 : decode cX4_fit 26 = .ok (.invokevirtual 64, 3) := by decide +kernel
theorem dX4_fit_29 : decode cX4_fit 29 = .ok (.ifCond .eq 5, 3) := by decide +kernel
theorem dX4_fit_32 : decode cX4_fit 32 = .ok (.iconst 0, 1) := by decide +kernel
theorem dX4_fit_33 : decode cX4_fit 33 = .ok (.ireturn, 1) := by decide +kernel
theorem dX4_fit_34 : decode cX4_fit 34 = .ok (.aload_n 0, 1) := by decide +kernel
theorem dX4_fit_35 : decode cX4_fit 35 = .ok (.iload_n 1, 1) := by decide +kernel
theorem dX4_fit_36 : decode cX4_fit 36 = .ok (.invokevirtual 156, 3) := by decide +kernel
theorem dX4_fit_39 : decode cX4_fit 39 = .ok (.ifCond .ne 22, 3) := by decide +kernel
theorem dX4_fit_42 : decode cX4_fit 42 = .ok (.aload_n 0, 1) := by decide +kernel
theorem dX4_fit_43 : decode cX4_fit 43 = .ok (.getfield 40, 3) := by decide +kernel
theorem dX4_fit_46 : decode cX4_fit 46 = .ok (.bipush 12, 2) := by decide +kernel
theorem dX4_fit_48 : decode cX4_fit 48 = .ok (.iload_n 1, 1) := by decide +kernel
theorem dX4_fit_49 : decode cX4_fit 49 = .ok (.imul, 1) := by decide +kernel
theorem dX4_fit_50 : decode cX4_fit 50 = .ok (.bipush 10, 2) := by decide +kernel
theorem dX4_fit_52 : decode cX4_fit 52 = .ok (.iadd, 1) := by decide +kernel
theorem dX4_fit_53 : decode cX4_fit 53 = .ok (.iaload, 1) := by decide +kernel
theorem dX4_fit_54 : decode cX4_fit 54 = .ok (.aload_n 0, 1) := by decide +kernel
theorem dX4_fit_55 : decode cX4_fit 55 = .ok (.getfield 150, 3) := by decide +kernel
theorem dX4_fit_58 : decode cX4_fit 58 = .ok (.if_icmp .le 5, 3) := by decide +kernel
theorem dX4_fit_61 : decode cX4_fit 61 = .ok (.iconst (-1), 1) := by decide +kernel
theorem dX4_fit_62 : decode cX4_fit 62 = .ok (.ireturn, 1) := by decide +kernel
theorem dX4_fit_63 : decode cX4_fit 63 = .ok (.aload_n 0, 1) := by decide +kernel
theorem dX4_fit_64 : decode cX4_fit 64 = .ok (.getfield 46, 3) := by decide +kernel
theorem dX4_fit_67 : decode cX4_fit 67 = .ok (.iload_n 1, 1) := by decide +kernel
theorem dX4_fit_68 : decode cX4_fit 68 = .ok (.baload, 1) := by decide +kernel
theorem dX4_fit_69 : decode cX4_fit 69 = .ok (.ifCond .eq 5, 3) := by decide +kernel
theorem dX4_fit_72 : decode cX4_fit 72 = .ok (.iconst 0, 1) := by decide +kernel
theorem dX4_fit_73 : decode cX4_fit 73 = .ok (.ireturn, 1) := by decide +kernel
theorem dX4_fit_74 : decode cX4_fit 74 = .ok (.aload_n 0, 1) := by decide +kernel
theorem dX4_fit_75 : decode cX4_fit 75 = .ok (.getfield 46, 3) := by decide +kernel
theorem dX4_fit_78 : decode cX4_fit 78 = .ok (.iload_n 1, 1) := by decide +kernel
theorem dX4_fit_79 : decode cX4_fit 79 = .ok (.iconst 1, 1) := by decide +kernel
theorem dX4_fit_80 : decode cX4_fit 80 = .ok (.bastore, 1) := by decide +kernel
theorem dX4_fit_81 : decode cX4_fit 81 = .ok (.aload_n 0, 1) := by decide +kernel
theorem dX4_fit_82 : decode cX4_fit 82 = .ok (.getfield 43, 3) := by decide +kernel
theorem dX4_fit_85 : decode cX4_fit 85 = .ok (.iload_n 1, 1) := by decide +kernel
theorem dX4_fit_86 : decode cX4_fit 86 = .ok (.iload_n 2, 1) := by decide +kernel
theorem dX4_fit_87 : decode cX4_fit 87 = .ok (.iastore, 1) := by decide +kernel
theorem dX4_fit_88 : decode cX4_fit 88 = .ok (.iconst 1, 1) := by decide +kernel
theorem dX4_fit_89 : decode cX4_fit 89 = .ok (.ireturn, 1) := by decide +kernel
set_option maxRecDepth 20000 in
theorem ggX4_wear_X4_isBlock : GoodIn wsX4_wear wsX4_isBlock := goodIn_r _ [9, 10, 11, 20, 21, 22, 23, 24, 25, 26, 27, 28, 29, 30, 31, 32, 33, 34, 35, 36, 37, 38, 39, 40, 41, 42, 43, 44, 45, 46, 47] (by decide +kernel) (by decide +kernel)
set_option maxRecDepth 20000 in
theorem gX4_wear_X4_isBlock : GoodIn wsX4_wear (wsV RX4 74 RX4 yX4_isBlock wsX4_isBlock) := goodIn_app (goodIn_of _ (by decide +kernel)) ggX4_wear_X4_isBlock
set_option maxRecDepth 20000 in
theorem ggX4_wear_X4_bad : GoodIn wsX4_wear wsX4_bad := goodIn_r _ [15, 11, 20, 21, 22, 23, 24, 25, 26, 27, 28, 29, 30, 31, 32, 33, 34, 35, 36, 37, 38, 39, 40, 41, 42, 43, 44, 45, 46, 47] (by decide +kernel) (by decide +kernel)
set_option maxRecDepth 20000 in
theorem gX4_wear_X4_bad : GoodIn wsX4_wear (wsV RX4 64 RX4 yX4_bad wsX4_bad) := goodIn_app (goodIn_of _ (by decide +kernel)) ggX4_wear_X4_bad
set_option maxRecDepth 20000 in
theorem ggX4_wear_X4_waits : GoodIn wsX4_wear wsX4_waits := goodIn_r _ [19, 2, 20, 21, 22, 23, 24, 25, 26, 27, 28, 29, 30, 31, 32, 33, 34, 35, 36, 37, 38, 39, 40, 41, 42, 43, 44, 45, 46, 47] (by decide +kernel) (by decide +kernel)
set_option maxRecDepth 20000 in
theorem gX4_wear_X4_waits : GoodIn wsX4_wear (wsV RX4 156 RX4 yX4_waits wsX4_waits) := goodIn_app (goodIn_of _ (by decide +kernel)) ggX4_wear_X4_waits
theorem dX4_wear_0 : decode cX4_wear 0 = .ok (.aload_n 0, 1) := by decide +kernel
theorem dX4_wear_1 : decode cX4_wear 1 = .ok (.iload_n 1, 1) := by decide +kernel
theorem dX4_wear_2 : decode cX4_wear 2 = .ok (.invokevirtual 74, 3) := by decide +kernel
theorem dX4_wear_5 : decode cX4_wear 5 = .ok (.ifCond .eq 25, 3) := by decide +kernel
theorem dX4_wear_8 : decode cX4_wear 8 = .ok (.aload_n 0, 1) := by decide +kernel
theorem dX4_wear_9 : decode cX4_wear 9 = .ok (.iload_n 2, 1) := by decide +kernel
theorem dX4_wear_10 : decode cX4_wear 10 = .ok (.ifCond .lt 8, 3) := by decide +kernel
theorem dX4_wear_13 : decode cX4_wear 13 = .ok (.iload_n 2, 1) := by decide +kernel
theorem dX4_wear_14 : decode cX4_wear 14 = .ok (.iconst 2, 1) := by decide +kernel
theorem dX4_wear_15 : decode cX4_wear 15 = .ok (.if_icmp .le 7, 3) := by decide +kernel
theorem dX4_wear_18 : decode cX4_wear 18 = .ok (.iconst 1, 1) := by decide +kernel
theorem dX4_wear_19 : decode cX4_wear 19 = .ok (.goto 4, 3) := by decide +kernel
theorem dX4_wear_22 : decode cX4_wear 22 = .ok (.iconst 0, 1) := by decide +kernel
theorem dX4_wear_23 : decode cX4_wear 23 = .ok (.iconst 2, 1) := by decide +kernel
theorem dX4_wear_24 : decode cX4_wear 24 = .ok (.invokevirtual 64, 3) := by decide +kernel
theorem dX4_wear_27 : decode cX4_wear 27 = .ok (.ifCond .eq 5, 3) := by decide +kernel
theorem dX4_wear_30 : decode cX4_wear 30 = .ok (.iconst 0, 1) := by decide +kernel
theorem dX4_wear_31 : decode cX4_wear 31 = .ok (.ireturn, 1) := by decide +kernel
theorem dX4_wear_32 : decode cX4_wear 32 = .ok (.iconst 0, 1) := by decide +kernel
theorem dX4_wear_33 : decode cX4_wear 33 = .ok (.istore_n 3, 1) := by decide +kernel
theorem dX4_wear_34 : decode cX4_wear 34 = .ok (.iconst 0, 1) := by decide +kernel
theorem dX4_wear_35 : decode cX4_wear 35 = .ok (.istore 4, 2) := by decide +kernel
theorem dX4_wear_37 : decode cX4_wear 37 = .ok (.iload 4, 2) := by decide +kernel
theorem dX4_wear_39 : decode cX4_wear 39 = .ok (.aload_n 0, 1) := by decide +kernel
theorem dX4_wear_40 : decode cX4_wear 40 = .ok (.getfield 141, 3) := by decide +kernel
theorem dX4_wear_43 : decode cX4_wear 43 = .ok (.if_icmp .ge 76, 3) := by decide +kernel
theorem dX4_wear_46 : decode cX4_wear 46 = .ok (.aload_n 0, 1) := by decide +kernel
theorem dX4_wear_47 : decode cX4_wear 47 = .ok (.iload 4, 2) := by decide +kernel
theorem dX4_wear_49 : decode cX4_wear 49 = .ok (.invokevirtual 156, 3) := by decide +kernel
theorem dX4_wear_52 : decode cX4_wear 52 = .ok (.ifCond .ne 61, 3) := by decide +kernel
theorem dX4_wear_55 : decode cX4_wear 55 = .ok (.aload_n 0, 1) := by decide +kernel
theorem dX4_wear_56 : decode cX4_wear 56 = .ok (.getfield 40, 3) := by decide +kernel
theorem dX4_wear_59 : decode cX4_wear 59 = .ok (.bipush 12, 2) := by decide +kernel
theorem dX4_wear_61 : decode cX4_wear 61 = .ok (.iload 4, 2) := by decide +kernel
theorem dX4_wear_63 : decode cX4_wear 63 = .ok (.imul, 1) := by decide +kernel
theorem dX4_wear_64 : decode cX4_wear 64 = .ok (.iaload, 1) := by decide +kernel
theorem dX4_wear_65 : decode cX4_wear 65 = .ok (.iload_n 1, 1) := by decide +kernel
theorem dX4_wear_66 : decode cX4_wear 66 = .ok (.if_icmp .eq 6, 3) := by decide +kernel
theorem dX4_wear_69 : decode cX4_wear 69 = .ok (.goto 44, 3) := by decide +kernel
theorem dX4_wear_72 : decode cX4_wear 72 = .ok (.iload_n 3, 1) := by decide +kernel
theorem dX4_wear_73 : decode cX4_wear 73 = .ok (.iload_n 2, 1) := by decide +kernel
theorem dX4_wear_74 : decode cX4_wear 74 = .ok (.ifCond .ne 7, 3) := by decide +kernel
theorem dX4_wear_77 : decode cX4_wear 77 = .ok (.iconst 1, 1) := by decide +kernel
theorem dX4_wear_78 : decode cX4_wear 78 = .ok (.goto 33, 3) := by decide +kernel
theorem dX4_wear_81 : decode cX4_wear 81 = .ok (.aload_n 0, 1) := by decide +kernel
theorem dX4_wear_82 : decode cX4_wear 82 = .ok (.getfield 46, 3) := by decide +kernel
theorem dX4_wear_85 : decode cX4_wear 85 = .ok (.iload 4, 2) := by decide +kernel
theorem dX4_wear_87 : decode cX4_wear 87 = .ok (.baload, 1) := by decide +kernel
theorem dX4_wear_88 : decode cX4_wear 88 = .ok (.ifCond .ne 7, 3) := by decide +kernel
theorem dX4_wear_91 : decode cX4_wear 91 = .ok (.iconst 0, 1) := by decide +kernel
theorem dX4_wear_92 : decode cX4_wear 92 = .ok (.goto 19, 3) := by decide +kernel
theorem dX4_wear_95 : decode cX4_wear 95 = .ok (.iload_n 2, 1) := by decide +kernel
theorem dX4_wear_96 : decode cX4_wear 96 = .ok (.iconst 1, 1) := by decide +kernel
theorem dX4_wear_97 : decode cX4_wear 97 = .ok (.if_icmp .ne 7, 3) := by decide +kernel
theorem dX4_wear_100 : decode cX4_wear 100 = .ok (.iconst 1, 1) := by decide +kernel
theorem dX4_wear_101 : decode cX4_wear 101 = .ok (.goto 10, 3) := by decide +kernel
theorem dX4_wear_104 : decode cX4_wear 104 = .ok (.aload_n 0, 1) := by decide +kernel
theorem dX4_wear_105 : decode cX4_wear 105 = .ok (.getfield 43, 3) := by decide +kernel
theorem dX4_wear_108 : decode cX4_wear 108 = .ok (.iload 4, 2) := by decide +kernel
theorem dX4_wear_110 : decode cX4_wear 110 = .ok (.iaload, 1) := by decide +kernel
theorem dX4_wear_111 : decode cX4_wear 111 = .ok (.iadd, 1) := by decide +kernel
theorem dX4_wear_112 : decode cX4_wear 112 = .ok (.istore_n 3, 1) := by decide +kernel
theorem dX4_wear_113 : decode cX4_wear 113 = .ok (.iinc 4 1, 3) := by decide +kernel
theorem dX4_wear_116 : decode cX4_wear 116 = .ok (.goto (-79), 3) := by decide +kernel
theorem dX4_wear_119 : decode cX4_wear 119 = .ok (.iload_n 3, 1) := by decide +kernel
theorem dX4_wear_120 : decode cX4_wear 120 = .ok (.ireturn, 1) := by decide +kernel
set_option maxRecDepth 20000 in
theorem ggX4_count_X4_waits : GoodIn wsX4_count wsX4_waits := goodIn_r _ [12, 13, 14, 15, 16, 17, 18, 19, 20, 21, 22, 23, 24, 25, 26, 27, 28, 29, 30, 31, 32, 33, 34, 35, 36, 37, 38, 39, 40, 41] (by decide +kernel) (by decide +kernel)
set_option maxRecDepth 20000 in
theorem gX4_count_X4_waits : GoodIn wsX4_count (wsV RX4 156 RX4 yX4_waits wsX4_waits) := goodIn_app (goodIn_of _ (by decide +kernel)) ggX4_count_X4_waits
theorem dX4_count_0 : decode cX4_count 0 = .ok (.aload_n 0, 1) := by decide +kernel
theorem dX4_count_1 : decode cX4_count 1 = .ok (.iconst 0, 1) := by decide +kernel
theorem dX4_count_2 : decode cX4_count 2 = .ok (.putfield 61, 3) := by decide +kernel
theorem dX4_count_5 : decode cX4_count 5 = .ok (.iload_n 1, 1) := by decide +kernel
theorem dX4_count_6 : decode cX4_count 6 = .ok (.tableswitch 108 0 6 #[42, 47, 52, 88, 93, 98, 103], 42) := by decide +kernel
theorem dX4_count_48 : decode cX4_count 48 = .ok (.aload_n 0, 1) := by decide +kernel
theorem dX4_count_49 : decode cX4_count 49 = .ok (.getfield 71, 3) := by decide +kernel
theorem dX4_count_52 : decode cX4_count 52 = .ok (.ireturn, 1) := by decide +kernel
theorem dX4_count_53 : decode cX4_count 53 = .ok (.aload_n 0, 1) := by decide +kernel
theorem dX4_count_54 : decode cX4_count 54 = .ok (.getfield 141, 3) := by decide +kernel
theorem dX4_count_57 : decode cX4_count 57 = .ok (.ireturn, 1) := by decide +kernel
theorem dX4_count_58 : decode cX4_count 58 = .ok (.iconst 0, 1) := by decide +kernel
theorem dX4_count_59 : decode cX4_count 59 = .ok (.istore_n 2, 1) := by decide +kernel
theorem dX4_count_60 : decode cX4_count 60 = .ok (.iconst 0, 1) := by decide +kernel
theorem dX4_count_61 : decode cX4_count 61 = .ok (.istore_n 3, 1) := by decide +kernel
theorem dX4_count_62 : decode cX4_count 62 = .ok (.iload_n 3, 1) := by decide +kernel
theorem dX4_count_63 : decode cX4_count 63 = .ok (.aload_n 0, 1) := by decide +kernel
theorem dX4_count_64 : decode cX4_count 64 = .ok (.getfield 141, 3) := by decide +kernel
theorem dX4_count_67 : decode cX4_count 67 = .ok (.if_icmp .ge 25, 3) := by decide +kernel
theorem dX4_count_70 : decode cX4_count 70 = .ok (.iload_n 2, 1) := by decide +kernel
theorem dX4_count_71 : decode cX4_count 71 = .ok (.aload_n 0, 1) := by decide +kernel
theorem dX4_count_72 : decode cX4_count 72 = .ok (.iload_n 3, 1) := by decide +kernel
theorem dX4_count_73 : decode cX4_count 73 = .ok (.invokevirtual 156, 3) := by decide +kernel
theorem dX4_count_76 : decode cX4_count 76 = .ok (.ifCond .eq 7, 3) := by decide +kernel
theorem dX4_count_79 : decode cX4_count 79 = .ok (.iconst 1, 1) := by decide +kernel
theorem dX4_count_80 : decode cX4_count 80 = .ok (.goto 4, 3) := by decide +kernel
theorem dX4_count_83 : decode cX4_count 83 = .ok (.iconst 0, 1) := by decide +kernel
theorem dX4_count_84 : decode cX4_count 84 = .ok (.iadd, 1) := by decide +kernel
theorem dX4_count_85 : decode cX4_count 85 = .ok (.istore_n 2, 1) := by decide +kernel
theorem dX4_count_86 : decode cX4_count 86 = .ok (.iinc 3 1, 3) := by decide +kernel
theorem dX4_count_89 : decode cX4_count 89 = .ok (.goto (-27), 3) := by decide +kernel
theorem dX4_count_92 : decode cX4_count 92 = .ok (.iload_n 2, 1) := by decide +kernel
theorem dX4_count_93 : decode cX4_count 93 = .ok (.ireturn, 1) := by decide +kernel
theorem dX4_count_94 : decode cX4_count 94 = .ok (.aload_n 0, 1) := by decide +kernel
theorem dX4_count_95 : decode cX4_count 95 = .ok (.getfield 150, 3) := by decide +kernel
theorem dX4_count_98 : decode cX4_count 98 = .ok (.ireturn, 1) := by decide +kernel
theorem dX4_count_99 : decode cX4_count 99 = .ok (.aload_n 0, 1) := by decide +kernel
theorem dX4_count_100 : decode cX4_count 100 = .ok (.getfield 68, 3) := by decide +kernel
theorem dX4_count_103 : decode cX4_count 103 = .ok (.ireturn, 1) := by decide +kernel
theorem dX4_count_104 : decode cX4_count 104 = .ok (.aload_n 0, 1) := by decide +kernel
theorem dX4_count_105 : decode cX4_count 105 = .ok (.getfield 82, 3) := by decide +kernel
theorem dX4_count_108 : decode cX4_count 108 = .ok (.ireturn, 1) := by decide +kernel
theorem dX4_count_109 : decode cX4_count 109 = .ok (.aload_n 0, 1) := by decide +kernel
theorem dX4_count_110 : decode cX4_count 110 = .ok (.getfield 153, 3) := by decide +kernel
theorem dX4_count_113 : decode cX4_count 113 = .ok (.ireturn, 1) := by decide +kernel
theorem dX4_count_114 : decode cX4_count 114 = .ok (.iconst (-1), 1) := by decide +kernel
theorem dX4_count_115 : decode cX4_count 115 = .ok (.ireturn, 1) := by decide +kernel
