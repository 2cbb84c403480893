theorem dX0_init_0 : decode cX0_init 0 = .ok (.aload_n 0, 1) := by decide +kernel
theorem dX0_init_1 : decode cX0_init 1 = .ok (.invokespecial 3, 3) := by decide +kernel
theorem dX0_init_4 : decode cX0_init 4 = .ok (.aload_n 0, 1) := by decide +kernel
theorem dX0_init_5 : decode cX0_init 5 = .ok (.bipush 10, 2) := by decide +kernel
theorem dX0_init_7 : decode cX0_init 7 = .ok (.bipush 12, 2) := by decide +kernel
theorem dX0_init_9 : decode cX0_init 9 = .ok (.multianewarray 9 2, 4) := by decide +kernel
theorem dX0_init_13 : decode cX0_init 13 = .ok (.putfield 11, 3) := by decide +kernel
theorem dX0_init_16 : decode cX0_init 16 = .ok (.aload_n 0, 1) := by decide +kernel
theorem dX0_init_17 : decode cX0_init 17 = .ok (.bipush 10, 2) := by decide +kernel
theorem dX0_init_19 : decode cX0_init 19 = .ok (.iconst 3, 1) := by decide +kernel
theorem dX0_init_20 : decode cX0_init 20 = .ok (.multianewarray 9 2, 4) := by decide +kernel
theorem dX0_init_24 : decode cX0_init 24 = .ok (.putfield 16, 3) := by decide +kernel
theorem dX0_init_27 : decode cX0_init 27 = .ok (.aload_n 0, 1) := by decide +kernel
theorem dX0_init_28 : decode cX0_init 28 = .ok (.bipush 10, 2) := by decide +kernel
theorem dX0_init_30 : decode cX0_init 30 = .ok (.newarray .int, 2) := by decide +kernel
theorem dX0_init_32 : decode cX0_init 32 = .ok (.putfield 19, 3) := by decide +kernel
theorem dX0_init_35 : decode cX0_init 35 = .ok (.aload_n 0, 1) := by decide +kernel
theorem dX0_init_36 : decode cX0_init 36 = .ok (.bipush 10, 2) := by decide +kernel
theorem dX0_init_38 : decode cX0_init 38 = .ok (.newarray .int, 2) := by decide +kernel
theorem dX0_init_40 : decode cX0_init 40 = .ok (.putfield 23, 3) := by decide +kernel
theorem dX0_init_43 : decode cX0_init 43 = .ok (.aload_n 0, 1) := by decide +kernel
theorem dX0_init_44 : decode cX0_init 44 = .ok (.iconst 0, 1) := by decide +kernel
theorem dX0_init_45 : decode cX0_init 45 = .ok (.putfield 26, 3) := by decide +kernel
theorem dX0_init_48 : decode cX0_init 48 = .ok (.return_, 1) := by decide +kernel
theorem dX0_add_0 : decode cX0_add 0 = .ok (.aload_n 0, 1) := by decide +kernel
theorem dX0_add_1 : decode cX0_add 1 = .ok (.getfield 26, 3) := by decide +kernel
theorem dX0_add_4 : decode cX0_add 4 = .ok (.istore_n 2, 1) := by decide +kernel
theorem dX0_add_5 : decode cX0_add 5 = .ok (.iconst 0, 1) := by decide +kernel
theorem dX0_add_6 : decode cX0_add 6 = .ok (.istore_n 3, 1) := by decide +kernel
theorem dX0_add_7 : decode cX0_add 7 = .ok (.iload_n 3, 1) := by decide +kernel
theorem dX0_add_8 : decode cX0_add 8 = .ok (.bipush 12, 2) := by decide +kernel
theorem dX0_add_10 : decode cX0_add 10 = .ok (.if_icmp .ge 20, 3) := by decide +kernel
theorem dX0_add_13 : decode cX0_add 13 = .ok (.aload_n 0, 1) := by decide +kernel
theorem dX0_add_14 : decode cX0_add 14 = .ok (.getfield 11, 3) := by decide +kernel
theorem dX0_add_17 : decode cX0_add 17 = .ok (.iload_n 2, 1) := by decide +kernel
theorem dX0_add_18 : decode cX0_add 18 = .ok (.aaload, 1) := by decide +kernel
theorem dX0_add_19 : decode cX0_add 19 = .ok (.iload_n 3, 1) := by decide +kernel
theorem dX0_add_20 : decode cX0_add 20 = .ok (.aload_n 1, 1) := by decide +kernel
theorem dX0_add_21 : decode cX0_add 21 = .ok (.iload_n 3, 1) := by decide +kernel
theorem dX0_add_22 : decode cX0_add 22 = .ok (.iaload, 1) := by decide +kernel
theorem dX0_add_23 : decode cX0_add 23 = .ok (.iastore, 1) := by decide +kernel
theorem dX0_add_24 : decode cX0_add 24 = .ok (.iinc 3 1, 3) := by decide +kernel
theorem dX0_add_27 : decode cX0_add 27 = .ok (.goto (-20), 3) := by decide +kernel
theorem dX0_add_30 : decode cX0_add 30 = .ok (.aload_n 0, 1) := by decide +kernel
theorem dX0_add_31 : decode cX0_add 31 = .ok (.getfield 23, 3) := by decide +kernel
theorem dX0_add_34 : decode cX0_add 34 = .ok (.iload_n 2, 1) := by decide +kernel
theorem dX0_add_35 : decode cX0_add 35 = .ok (.iconst (-1), 1) := by decide +kernel
theorem dX0_add_36 : decode cX0_add 36 = .ok (.iastore, 1) := by decide +kernel
theorem dX0_add_37 : decode cX0_add 37 = .ok (.aload_n 0, 1) := by decide +kernel
theorem dX0_add_38 : decode cX0_add 38 = .ok (.dup, 1) := by decide +kernel
theorem dX0_add_39 : decode cX0_add 39 = .ok (.getfield 26, 3) := by decide +kernel
theorem dX0_add_42 : decode cX0_add 42 = .ok (.iconst 1, 1) := by decide +kernel
theorem dX0_add_43 : decode cX0_add 43 = .ok (.iadd, 1) := by decide +kernel
theorem dX0_add_44 : decode cX0_add 44 = .ok (.putfield 26, 3) := by decide +kernel
theorem dX0_add_47 : decode cX0_add 47 = .ok (.iload_n 2, 1) := by decide +kernel
theorem dX0_add_48 : decode cX0_add 48 = .ok (.ireturn, 1) := by decide +kernel
theorem dX0_misfitOf_0 : decode cX0_misfitOf 0 = .ok (.aload_n 0, 1) := by decide +kernel
theorem dX0_misfitOf_1 : decode cX0_misfitOf 1 = .ok (.getfield 11, 3) := by decide +kernel
theorem dX0_misfitOf_4 : decode cX0_misfitOf 4 = .ok (.iload_n 2, 1) := by decide +kernel
theorem dX0_misfitOf_5 : decode cX0_misfitOf 5 = .ok (.aaload, 1) := by decide +kernel
theorem dX0_misfitOf_6 : decode cX0_misfitOf 6 = .ok (.astore 4, 2) := by decide +kernel
theorem dX0_misfitOf_8 : decode cX0_misfitOf 8 = .ok (.iconst 0, 1) := by decide +kernel
theorem dX0_misfitOf_9 : decode cX0_misfitOf 9 = .ok (.istore 5, 2) := by decide +kernel
theorem dX0_misfitOf_11 : decode cX0_misfitOf 11 = .ok (.iconst 0, 1) := by decide +kernel
theorem dX0_misfitOf_12 : decode cX0_misfitOf 12 = .ok (.istore 6, 2) := by decide +kernel
theorem dX0_misfitOf_14 : decode cX0_misfitOf 14 = .ok (.iload 6, 2) := by decide +kernel
theorem dX0_misfitOf_16 : decode cX0_misfitOf 16 = .ok (.bipush 12, 2) := by decide +kernel
theorem dX0_misfitOf_18 : decode cX0_misfitOf 18 = .ok (.if_icmp .ge 52, 3) := by decide +kernel
theorem dX0_misfitOf_21 : decode cX0_misfitOf 21 = .ok (.iload 6, 2) := by decide +kernel
theorem dX0_misfitOf_23 : decode cX0_misfitOf 23 = .ok (.iload_n 3, 1) := by decide +kernel
theorem dX0_misfitOf_24 : decode cX0_misfitOf 24 = .ok (.iadd, 1) := by decide +kernel
theorem dX0_misfitOf_25 : decode cX0_misfitOf 25 = .ok (.istore 7, 2) := by decide +kernel
theorem dX0_misfitOf_27 : decode cX0_misfitOf 27 = .ok (.aload_n 1, 1) := by decide +kernel
theorem dX0_misfitOf_28 : decode cX0_misfitOf 28 = .ok (.iload 7, 2) := by decide +kernel
theorem dX0_misfitOf_30 : decode cX0_misfitOf 30 = .ok (.bipush 12, 2) := by decide +kernel
theorem dX0_misfitOf_32 : decode cX0_misfitOf 32 = .ok (.if_icmp .ge 8, 3) := by decide +kernel
theorem dX0_misfitOf_35 : decode cX0_misfitOf 35 = .ok (.iload 7, 2) := by decide +kernel
theorem dX0_misfitOf_37 : decode cX0_misfitOf 37 = .ok (.goto 8, 3) := by decide +kernel
theorem dX0_misfitOf_40 : decode cX0_misfitOf 40 = .ok (.iload 7, 2) := by decide +kernel
theorem dX0_misfitOf_42 : decode cX0_misfitOf 42 = .ok (.bipush 12, 2) := by decide +kernel
theorem dX0_misfitOf_44 : decode cX0_misfitOf 44 = .ok (.isub, 1) := by decide +kernel
theorem dX0_misfitOf_45 : decode cX0_misfitOf 45 = .ok (.iaload, 1) := by decide +kernel
theorem dX0_misfitOf_46 : decode cX0_misfitOf 46 = .ok (.aload 4, 2) := by decide +kernel
theorem dX0_misfitOf_48 : decode cX0_misfitOf 48 = .ok (.iload 6, 2) := by decide +kernel
theorem dX0_misfitOf_50 : decode cX0_misfitOf 50 = .ok (.iaload, 1) := by decide +kernel
theorem dX0_misfitOf_51 : decode cX0_misfitOf 51 = .ok (.isub, 1) := by decide +kernel
theorem dX0_misfitOf_52 : decode cX0_misfitOf 52 = .ok (.istore 8, 2) := by decide +kernel
theorem dX0_misfitOf_54 : decode cX0_misfitOf 54 = .ok (.iload 5, 2) := by decide +kernel
theorem dX0_misfitOf_56 : decode cX0_misfitOf 56 = .ok (.iload 8, 2) := by decide +kernel
theorem dX0_misfitOf_58 : decode cX0_misfitOf 58 = .ok (.iload 8, 2) := by decide +kernel
theorem dX0_misfitOf_60 : decode cX0_misfitOf 60 = .ok (.imul, 1) := by decide +kernel
theorem dX0_misfitOf_61 : decode cX0_misfitOf 61 = .ok (.iadd, 1) := by decide +kernel
theorem dX0_misfitOf_62 : decode cX0_misfitOf 62 = .ok (.istore 5, 2) := by decide +kernel
theorem dX0_misfitOf_64 : decode cX0_misfitOf 64 = .ok (.iinc 6 1, 3) := by decide +kernel
theorem dX0_misfitOf_67 : decode cX0_misfitOf 67 = .ok (.goto (-53), 3) := by decide +kernel
theorem dX0_misfitOf_70 : decode cX0_misfitOf 70 = .ok (.iload 5, 2) := by decide +kernel
theorem dX0_misfitOf_72 : decode cX0_misfitOf 72 = .ok (.ireturn, 1) := by decide +kernel
set_option maxRecDepth 20000 in
theorem ggX0_match_X0_misfitOf : GoodIn wsX0_match wsX0_misfitOf := goodIn_r _ [7, 8, 9, 10, 11, 12, 13] (by decide +kernel) (by decide +kernel)
set_option maxRecDepth 20000 in
theorem gX0_match_X0_misfitOf : GoodIn wsX0_match (wsV RX0 33 RX0 yX0_misfitOf wsX0_misfitOf) := goodIn_app (goodIn_of _ (by decide +kernel)) ggX0_match_X0_misfitOf
theorem dX0_match_0 : decode cX0_match 0 = .ok (.ldc 32, 2) := by decide +kernel
theorem dX0_match_2 : decode cX0_match 2 = .ok (.istore_n 3, 1) := by decide +kernel
theorem dX0_match_3 : decode cX0_match 3 = .ok (.iconst 0, 1) := by decide +kernel
theorem dX0_match_4 : decode cX0_match 4 = .ok (.istore 4, 2) := by decide +kernel
theorem dX0_match_6 : decode cX0_match 6 = .ok (.iload 4, 2) := by decide +kernel
theorem dX0_match_8 : decode cX0_match 8 = .ok (.bipush 12, 2) := by decide +kernel
theorem dX0_match_10 : decode cX0_match 10 = .ok (.if_icmp .ge 62, 3) := by decide +kernel
theorem dX0_match_13 : decode cX0_match 13 = .ok (.iconst 0, 1) := by decide +kernel
theorem dX0_match_14 : decode cX0_match 14 = .ok (.istore 5, 2) := by decide +kernel
theorem dX0_match_16 : decode cX0_match 16 = .ok (.iload 5, 2) := by decide +kernel
theorem dX0_match_18 : decode cX0_match 18 = .ok (.aload_n 0, 1) := by decide +kernel
theorem dX0_match_19 : decode cX0_match 19 = .ok (.getfield 26, 3) := by decide +kernel
theorem dX0_match_22 : decode cX0_match 22 = .ok (.if_icmp .ge 44, 3) := by decide +kernel
theorem dX0_match_25 : decode cX0_match 25 = .ok (.aload_n 0, 1) := by decide +kernel
theorem dX0_match_26 : decode cX0_match 26 = .ok (.aload_n 1, 1) := by decide +kernel
theorem dX0_match_27 : decode cX0_match 27 = .ok (.iload 5, 2) := by decide +kernel
theorem dX0_match_29 : decode cX0_match 29 = .ok (.iload 4, 2) := by decide +kernel
theorem dX0_match_31 : decode cX0_match 31 = .ok (.invokevirtual 33, 3) := by decide +kernel
theorem dX0_match_34 : decode cX0_match 34 = .ok (.istore 6, 2) := by decide +kernel
theorem dX0_match_36 : decode cX0_match 36 = .ok (.iload 6, 2) := by decide +kernel
theorem dX0_match_38 : decode cX0_match 38 = .ok (.iload_n 3, 1) := by decide +kernel
theorem dX0_match_39 : decode cX0_match 39 = .ok (.if_icmp .ge 21, 3) := by decide +kernel
theorem dX0_match_42 : decode cX0_match 42 = .ok (.iload 6, 2) := by decide +kernel
theorem dX0_match_44 : decode cX0_match 44 = .ok (.istore_n 3, 1) := by decide +kernel
theorem dX0_match_45 : decode cX0_match 45 = .ok (.aload_n 2, 1) := by decide +kernel
theorem dX0_match_46 : decode cX0_match 46 = .ok (.iconst 0, 1) := by decide +kernel
theorem dX0_match_47 : decode cX0_match 47 = .ok (.iload 5, 2) := by decide +kernel
theorem dX0_match_49 : decode cX0_match 49 = .ok (.iastore, 1) := by decide +kernel
theorem dX0_match_50 : decode cX0_match 50 = .ok (.aload_n 2, 1) := by decide +kernel
theorem dX0_match_51 : decode cX0_match 51 = .ok (.iconst 1, 1) := by decide +kernel
theorem dX0_match_52 : decode cX0_match 52 = .ok (.iload 4, 2) := by decide +kernel
theorem dX0_match_54 : decode cX0_match 54 = .ok (.iastore, 1) := by decide +kernel
theorem dX0_match_55 : decode cX0_match 55 = .ok (.aload_n 2, 1) := by decide +kernel
theorem dX0_match_56 : decode cX0_match 56 = .ok (.iconst 2, 1) := by decide +kernel
theorem dX0_match_57 : decode cX0_match 57 = .ok (.iload 6, 2) := by decide +kernel
theorem dX0_match_59 : decode cX0_match 59 = .ok (.iastore, 1) := by decide +kernel
theorem dX0_match_60 : decode cX0_match 60 = .ok (.iinc 5 1, 3) := by decide +kernel
theorem dX0_match_63 : decode cX0_match 63 = .ok (.goto (-47), 3) := by decide +kernel
theorem dX0_match_66 : decode cX0_match 66 = .ok (.iinc 4 1, 3) := by decide +kernel
theorem dX0_match_69 : decode cX0_match 69 = .ok (.goto (-63), 3) := by decide +kernel
theorem dX0_match_72 : decode cX0_match 72 = .ok (.return_, 1) := by decide +kernel
