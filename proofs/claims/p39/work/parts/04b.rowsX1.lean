theorem dX1_init_0 : decode cX1_init 0 = .ok (.aload_n 0, 1) := by decide +kernel
theorem dX1_init_1 : decode cX1_init 1 = .ok (.invokespecial 1, 3) := by decide +kernel
theorem dX1_init_4 : decode cX1_init 4 = .ok (.aload_n 0, 1) := by decide +kernel
theorem dX1_init_5 : decode cX1_init 5 = .ok (.bipush 10, 2) := by decide +kernel
theorem dX1_init_7 : decode cX1_init 7 = .ok (.putfield 7, 3) := by decide +kernel
theorem dX1_init_10 : decode cX1_init 10 = .ok (.aload_n 0, 1) := by decide +kernel
theorem dX1_init_11 : decode cX1_init 11 = .ok (.iconst 5, 1) := by decide +kernel
theorem dX1_init_12 : decode cX1_init 12 = .ok (.putfield 13, 3) := by decide +kernel
theorem dX1_init_15 : decode cX1_init 15 = .ok (.aload_n 0, 1) := by decide +kernel
theorem dX1_init_16 : decode cX1_init 16 = .ok (.iconst 2, 1) := by decide +kernel
theorem dX1_init_17 : decode cX1_init 17 = .ok (.putfield 16, 3) := by decide +kernel
theorem dX1_init_20 : decode cX1_init 20 = .ok (.aload_n 0, 1) := by decide +kernel
theorem dX1_init_21 : decode cX1_init 21 = .ok (.bipush 12, 2) := by decide +kernel
theorem dX1_init_23 : decode cX1_init 23 = .ok (.newarray .int, 2) := by decide +kernel
theorem dX1_init_25 : decode cX1_init 25 = .ok (.putfield 19, 3) := by decide +kernel
theorem dX1_init_28 : decode cX1_init 28 = .ok (.aload_n 0, 1) := by decide +kernel
theorem dX1_init_29 : decode cX1_init 29 = .ok (.bipush 12, 2) := by decide +kernel
theorem dX1_init_31 : decode cX1_init 31 = .ok (.bipush 12, 2) := by decide +kernel
theorem dX1_init_33 : decode cX1_init 33 = .ok (.multianewarray 23 2, 4) := by decide +kernel
theorem dX1_init_37 : decode cX1_init 37 = .ok (.putfield 25, 3) := by decide +kernel
theorem dX1_init_40 : decode cX1_init 40 = .ok (.aload_n 0, 1) := by decide +kernel
theorem dX1_init_41 : decode cX1_init 41 = .ok (.bipush 12, 2) := by decide +kernel
theorem dX1_init_43 : decode cX1_init 43 = .ok (.bipush 12, 2) := by decide +kernel
theorem dX1_init_45 : decode cX1_init 45 = .ok (.multianewarray 23 2, 4) := by decide +kernel
theorem dX1_init_49 : decode cX1_init 49 = .ok (.putfield 28, 3) := by decide +kernel
theorem dX1_init_52 : decode cX1_init 52 = .ok (.aload_n 0, 1) := by decide +kernel
theorem dX1_init_53 : decode cX1_init 53 = .ok (.iconst 0, 1) := by decide +kernel
theorem dX1_init_54 : decode cX1_init 54 = .ok (.newarray .int, 2) := by decide +kernel
theorem dX1_init_56 : decode cX1_init 56 = .ok (.putfield 31, 3) := by decide +kernel
theorem dX1_init_59 : decode cX1_init 59 = .ok (.aload_n 0, 1) := by decide +kernel
theorem dX1_init_60 : decode cX1_init 60 = .ok (.iconst 0, 1) := by decide +kernel
theorem dX1_init_61 : decode cX1_init 61 = .ok (.newarray .boolean, 2) := by decide +kernel
theorem dX1_init_63 : decode cX1_init 63 = .ok (.putfield 34, 3) := by decide +kernel
theorem dX1_init_66 : decode cX1_init 66 = .ok (.return_, 1) := by decide +kernel
theorem dX1_counts_0 : decode cX1_counts 0 = .ok (.iload_n 1, 1) := by decide +kernel
theorem dX1_counts_1 : decode cX1_counts 1 = .ok (.aload_n 0, 1) := by decide +kernel
theorem dX1_counts_2 : decode cX1_counts 2 = .ok (.getfield 7, 3) := by decide +kernel
theorem dX1_counts_5 : decode cX1_counts 5 = .ok (.irem, 1) := by decide +kernel
theorem dX1_counts_6 : decode cX1_counts 6 = .ok (.ifCond .ne 12, 3) := by decide +kernel
theorem dX1_counts_9 : decode cX1_counts 9 = .ok (.iload_n 1, 1) := by decide +kernel
theorem dX1_counts_10 : decode cX1_counts 10 = .ok (.aload_n 0, 1) := by decide +kernel
theorem dX1_counts_11 : decode cX1_counts 11 = .ok (.getfield 7, 3) := by decide +kernel
theorem dX1_counts_14 : decode cX1_counts 14 = .ok (.idiv, 1) := by decide +kernel
theorem dX1_counts_15 : decode cX1_counts 15 = .ok (.goto 11, 3) := by decide +kernel
theorem dX1_counts_18 : decode cX1_counts 18 = .ok (.iload_n 1, 1) := by decide +kernel
theorem dX1_counts_19 : decode cX1_counts 19 = .ok (.aload_n 0, 1) := by decide +kernel
theorem dX1_counts_20 : decode cX1_counts 20 = .ok (.getfield 7, 3) := by decide +kernel
theorem dX1_counts_23 : decode cX1_counts 23 = .ok (.idiv, 1) := by decide +kernel
theorem dX1_counts_24 : decode cX1_counts 24 = .ok (.iconst 1, 1) := by decide +kernel
theorem dX1_counts_25 : decode cX1_counts 25 = .ok (.iadd, 1) := by decide +kernel
theorem dX1_counts_26 : decode cX1_counts 26 = .ok (.ireturn, 1) := by decide +kernel
theorem dX1_lifted_0 : decode cX1_lifted 0 = .ok (.aload_n 0, 1) := by decide +kernel
theorem dX1_lifted_1 : decode cX1_lifted 1 = .ok (.getfield 31, 3) := by decide +kernel
theorem dX1_lifted_4 : decode cX1_lifted 4 = .ok (.arraylength, 1) := by decide +kernel
theorem dX1_lifted_5 : decode cX1_lifted 5 = .ok (.ifCond .ne 7, 3) := by decide +kernel
theorem dX1_lifted_8 : decode cX1_lifted 8 = .ok (.iconst 0, 1) := by decide +kernel
theorem dX1_lifted_9 : decode cX1_lifted 9 = .ok (.goto 19, 3) := by decide +kernel
theorem dX1_lifted_12 : decode cX1_lifted 12 = .ok (.iload_n 1, 1) := by decide +kernel
theorem dX1_lifted_13 : decode cX1_lifted 13 = .ok (.aload_n 0, 1) := by decide +kernel
theorem dX1_lifted_14 : decode cX1_lifted 14 = .ok (.getfield 13, 3) := by decide +kernel
theorem dX1_lifted_17 : decode cX1_lifted 17 = .ok (.if_icmp .ge 10, 3) := by decide +kernel
theorem dX1_lifted_20 : decode cX1_lifted 20 = .ok (.aload_n 0, 1) := by decide +kernel
theorem dX1_lifted_21 : decode cX1_lifted 21 = .ok (.getfield 13, 3) := by decide +kernel
theorem dX1_lifted_24 : decode cX1_lifted 24 = .ok (.goto 4, 3) := by decide +kernel
theorem dX1_lifted_27 : decode cX1_lifted 27 = .ok (.iload_n 1, 1) := by decide +kernel
theorem dX1_lifted_28 : decode cX1_lifted 28 = .ok (.ireturn, 1) := by decide +kernel
set_option maxRecDepth 20000 in
theorem ggX1_sum_X1_counts : GoodIn wsX1_sum wsX1_counts := goodIn_r _ [6, 7, 8, 9, 10, 11, 12, 13, 14, 15, 16, 17, 18] (by decide +kernel) (by decide +kernel)
set_option maxRecDepth 20000 in
theorem gX1_sum_X1_counts : GoodIn wsX1_sum (wsV RX1 38 RX1 yX1_counts wsX1_counts) := goodIn_app (goodIn_of _ (by decide +kernel)) ggX1_sum_X1_counts
theorem dX1_sum_0 : decode cX1_sum 0 = .ok (.iconst 0, 1) := by decide +kernel
theorem dX1_sum_1 : decode cX1_sum 1 = .ok (.istore_n 3, 1) := by decide +kernel
theorem dX1_sum_2 : decode cX1_sum 2 = .ok (.iconst 0, 1) := by decide +kernel
theorem dX1_sum_3 : decode cX1_sum 3 = .ok (.istore 4, 2) := by decide +kernel
theorem dX1_sum_5 : decode cX1_sum 5 = .ok (.iconst 0, 1) := by decide +kernel
theorem dX1_sum_6 : decode cX1_sum 6 = .ok (.istore 5, 2) := by decide +kernel
theorem dX1_sum_8 : decode cX1_sum 8 = .ok (.iload 5, 2) := by decide +kernel
theorem dX1_sum_10 : decode cX1_sum 10 = .ok (.aload_n 1, 1) := by decide +kernel
theorem dX1_sum_11 : decode cX1_sum 11 = .ok (.arraylength, 1) := by decide +kernel
theorem dX1_sum_12 : decode cX1_sum 12 = .ok (.if_icmp .ge 45, 3) := by decide +kernel
theorem dX1_sum_15 : decode cX1_sum 15 = .ok (.iload 4, 2) := by decide +kernel
theorem dX1_sum_17 : decode cX1_sum 17 = .ok (.aload_n 0, 1) := by decide +kernel
theorem dX1_sum_18 : decode cX1_sum 18 = .ok (.getfield 19, 3) := by decide +kernel
theorem dX1_sum_21 : decode cX1_sum 21 = .ok (.aload_n 1, 1) := by decide +kernel
theorem dX1_sum_22 : decode cX1_sum 22 = .ok (.iload 5, 2) := by decide +kernel
theorem dX1_sum_24 : decode cX1_sum 24 = .ok (.iaload, 1) := by decide +kernel
theorem dX1_sum_25 : decode cX1_sum 25 = .ok (.iaload, 1) := by decide +kernel
theorem dX1_sum_26 : decode cX1_sum 26 = .ok (.iadd, 1) := by decide +kernel
theorem dX1_sum_27 : decode cX1_sum 27 = .ok (.istore 4, 2) := by decide +kernel
theorem dX1_sum_29 : decode cX1_sum 29 = .ok (.aload_n 2, 1) := by decide +kernel
theorem dX1_sum_30 : decode cX1_sum 30 = .ok (.iload 5, 2) := by decide +kernel
theorem dX1_sum_32 : decode cX1_sum 32 = .ok (.baload, 1) := by decide +kernel
theorem dX1_sum_33 : decode cX1_sum 33 = .ok (.ifCond .eq 6, 3) := by decide +kernel
theorem dX1_sum_36 : decode cX1_sum 36 = .ok (.goto 15, 3) := by decide +kernel
theorem dX1_sum_39 : decode cX1_sum 39 = .ok (.iload_n 3, 1) := by decide +kernel
theorem dX1_sum_40 : decode cX1_sum 40 = .ok (.aload_n 0, 1) := by decide +kernel
theorem dX1_sum_41 : decode cX1_sum 41 = .ok (.iload 4, 2) := by decide +kernel
theorem dX1_sum_43 : decode cX1_sum 43 = .ok (.invokevirtual 38, 3) := by decide +kernel
theorem dX1_sum_46 : decode cX1_sum 46 = .ok (.iadd, 1) := by decide +kernel
theorem dX1_sum_47 : decode cX1_sum 47 = .ok (.istore_n 3, 1) := by decide +kernel
theorem dX1_sum_48 : decode cX1_sum 48 = .ok (.iconst 0, 1) := by decide +kernel
theorem dX1_sum_49 : decode cX1_sum 49 = .ok (.istore 4, 2) := by decide +kernel
theorem dX1_sum_51 : decode cX1_sum 51 = .ok (.iinc 5 1, 3) := by decide +kernel
theorem dX1_sum_54 : decode cX1_sum 54 = .ok (.goto (-46), 3) := by decide +kernel
theorem dX1_sum_57 : decode cX1_sum 57 = .ok (.iload_n 3, 1) := by decide +kernel
theorem dX1_sum_58 : decode cX1_sum 58 = .ok (.ireturn, 1) := by decide +kernel
set_option maxRecDepth 20000 in
theorem ggX1_count_X1_sum : GoodIn wsX1_count wsX1_sum := goodIn_r _ [7, 8, 9, 10, 11, 6, 12, 13, 19, 20, 21, 22, 23, 24, 25, 26, 27, 28, 29] (by decide +kernel) (by decide +kernel)
set_option maxRecDepth 20000 in
theorem gX1_count_X1_sum : GoodIn wsX1_count (wsV RX1 42 RX1 yX1_sum wsX1_sum) := goodIn_app (goodIn_of _ (by decide +kernel)) ggX1_count_X1_sum
set_option maxRecDepth 20000 in
theorem ggX1_count_X1_lifted : GoodIn wsX1_count wsX1_lifted := goodIn_r _ [17, 1, 18, 19, 20, 21, 22, 23, 24, 25, 26, 27, 28, 29] (by decide +kernel) (by decide +kernel)
set_option maxRecDepth 20000 in
theorem gX1_count_X1_lifted : GoodIn wsX1_count (wsV RX1 46 RX1 yX1_lifted wsX1_lifted) := goodIn_app (goodIn_of _ (by decide +kernel)) ggX1_count_X1_lifted
theorem dX1_count_0 : decode cX1_count 0 = .ok (.aload_n 0, 1) := by decide +kernel
theorem dX1_count_1 : decode cX1_count 1 = .ok (.aload_n 0, 1) := by decide +kernel
theorem dX1_count_2 : decode cX1_count 2 = .ok (.aload_n 0, 1) := by decide +kernel
theorem dX1_count_3 : decode cX1_count 3 = .ok (.getfield 31, 3) := by decide +kernel
theorem dX1_count_6 : decode cX1_count 6 = .ok (.aload_n 0, 1) := by decide +kernel
theorem dX1_count_7 : decode cX1_count 7 = .ok (.getfield 34, 3) := by decide +kernel
theorem dX1_count_10 : decode cX1_count 10 = .ok (.invokevirtual 42, 3) := by decide +kernel
theorem dX1_count_13 : decode cX1_count 13 = .ok (.invokevirtual 46, 3) := by decide +kernel
theorem dX1_count_16 : decode cX1_count 16 = .ok (.ireturn, 1) := by decide +kernel
theorem dX1_may_0 : decode cX1_may 0 = .ok (.iload_n 1, 1) := by decide +kernel
theorem dX1_may_1 : decode cX1_may 1 = .ok (.iload_n 2, 1) := by decide +kernel
theorem dX1_may_2 : decode cX1_may 2 = .ok (.if_icmp .eq 14, 3) := by decide +kernel
theorem dX1_may_5 : decode cX1_may 5 = .ok (.aload_n 0, 1) := by decide +kernel
theorem dX1_may_6 : decode cX1_may 6 = .ok (.getfield 25, 3) := by decide +kernel
theorem dX1_may_9 : decode cX1_may 9 = .ok (.iload_n 1, 1) := by decide +kernel
theorem dX1_may_10 : decode cX1_may 10 = .ok (.aaload, 1) := by decide +kernel
theorem dX1_may_11 : decode cX1_may 11 = .ok (.iload_n 2, 1) := by decide +kernel
theorem dX1_may_12 : decode cX1_may 12 = .ok (.baload, 1) := by decide +kernel
theorem dX1_may_13 : decode cX1_may 13 = .ok (.ifCond .eq 7, 3) := by decide +kernel
theorem dX1_may_16 : decode cX1_may 16 = .ok (.iconst 1, 1) := by decide +kernel
theorem dX1_may_17 : decode cX1_may 17 = .ok (.goto 4, 3) := by decide +kernel
theorem dX1_may_20 : decode cX1_may 20 = .ok (.iconst 0, 1) := by decide +kernel
theorem dX1_may_21 : decode cX1_may 21 = .ok (.ireturn, 1) := by decide +kernel
set_option maxRecDepth 20000 in
theorem ggX1_upTo_X1_may : GoodIn wsX1_upTo wsX1_may := goodIn_r _ [14, 15, 21, 22, 23, 24, 25, 26, 27, 28, 29, 30, 31] (by decide +kernel) (by decide +kernel)
set_option maxRecDepth 20000 in
theorem gX1_upTo_X1_may : GoodIn wsX1_upTo (wsV RX1 52 RX1 yX1_may wsX1_may) := goodIn_app (goodIn_of _ (by decide +kernel)) ggX1_upTo_X1_may
set_option maxRecDepth 20000 in
theorem ggX1_upTo_X1_counts : GoodIn wsX1_upTo wsX1_counts := goodIn_r _ [19, 20, 21, 22, 23, 24, 25, 26, 27, 28, 29, 30, 31] (by decide +kernel) (by decide +kernel)
set_option maxRecDepth 20000 in
theorem gX1_upTo_X1_counts : GoodIn wsX1_upTo (wsV RX1 38 RX1 yX1_counts wsX1_counts) := goodIn_app (goodIn_of _ (by decide +kernel)) ggX1_upTo_X1_counts
theorem dX1_upTo_0 : decode cX1_upTo 0 = .ok (.aload_n 0, 1) := by decide +kernel
theorem dX1_upTo_1 : decode cX1_upTo 1 = .ok (.getfield 31, 3) := by decide +kernel
theorem dX1_upTo_4 : decode cX1_upTo 4 = .ok (.arraylength, 1) := by decide +kernel
theorem dX1_upTo_5 : decode cX1_upTo 5 = .ok (.iconst 1, 1) := by decide +kernel
theorem dX1_upTo_6 : decode cX1_upTo 6 = .ok (.iadd, 1) := by decide +kernel
theorem dX1_upTo_7 : decode cX1_upTo 7 = .ok (.newarray .int, 2) := by decide +kernel
theorem dX1_upTo_9 : decode cX1_upTo 9 = .ok (.astore_n 1, 1) := by decide +kernel
theorem dX1_upTo_10 : decode cX1_upTo 10 = .ok (.iconst 0, 1) := by decide +kernel
theorem dX1_upTo_11 : decode cX1_upTo 11 = .ok (.istore_n 2, 1) := by decide +kernel
theorem dX1_upTo_12 : decode cX1_upTo 12 = .ok (.iload_n 2, 1) := by decide +kernel
theorem dX1_upTo_13 : decode cX1_upTo 13 = .ok (.aload_n 0, 1) := by decide +kernel
theorem dX1_upTo_14 : decode cX1_upTo 14 = .ok (.getfield 31, 3) := by decide +kernel
theorem dX1_upTo_17 : decode cX1_upTo 17 = .ok (.arraylength, 1) := by decide +kernel
theorem dX1_upTo_18 : decode cX1_upTo 18 = .ok (.if_icmp .ge 165, 3) := by decide +kernel
theorem dX1_upTo_21 : decode cX1_upTo 21 = .ok (.aload_n 1, 1) := by decide +kernel
theorem dX1_upTo_22 : decode cX1_upTo 22 = .ok (.iload_n 2, 1) := by decide +kernel
theorem dX1_upTo_23 : decode cX1_upTo 23 = .ok (.iconst 1, 1) := by decide +kernel
theorem dX1_upTo_24 : decode cX1_upTo 24 = .ok (.iadd, 1) := by decide +kernel
theorem dX1_upTo_25 : decode cX1_upTo 25 = .ok (.sipush 9999, 3) := by decide +kernel
theorem dX1_upTo_28 : decode cX1_upTo 28 = .ok (.iastore, 1) := by decide +kernel
theorem dX1_upTo_29 : decode cX1_upTo 29 = .ok (.iconst 0, 1) := by decide +kernel
theorem dX1_upTo_30 : decode cX1_upTo 30 = .ok (.istore_n 3, 1) := by decide +kernel
theorem dX1_upTo_31 : decode cX1_upTo 31 = .ok (.iload_n 3, 1) := by decide +kernel
theorem dX1_upTo_32 : decode cX1_upTo 32 = .ok (.aload_n 0, 1) := by decide +kernel
theorem dX1_upTo_33 : decode cX1_upTo 33 = .ok (.getfield 49, 3) := by decide +kernel
theorem dX1_upTo_36 : decode cX1_upTo 36 = .ok (.if_icmp .ge 141, 3) := by decide +kernel
theorem dX1_upTo_39 : decode cX1_upTo 39 = .ok (.aload_n 0, 1) := by decide +kernel
theorem dX1_upTo_40 : decode cX1_upTo 40 = .ok (.aload_n 0, 1) := by decide +kernel
theorem dX1_upTo_41 : decode cX1_upTo 41 = .ok (.getfield 31, 3) := by decide +kernel
theorem dX1_upTo_44 : decode cX1_upTo 44 = .ok (.iload_n 2, 1) := by decide +kernel
theorem dX1_upTo_45 : decode cX1_upTo 45 = .ok (.iaload, 1) := by decide +kernel
theorem dX1_upTo_46 : decode cX1_upTo 46 = .ok (.iload_n 3, 1) := by decide +kernel
theorem dX1_upTo_47 : decode cX1_upTo 47 = .ok (.invokevirtual 52, 3) := by decide +kernel
theorem dX1_upTo_50 : decode cX1_upTo 50 = .ok (.ifCond .ne 6, 3) := by decide +kernel
theorem dX1_upTo_53 : decode cX1_upTo 53 = .ok (.goto 118, 3) := by decide +kernel
theorem dX1_upTo_56 : decode cX1_upTo 56 = .ok (.aload_n 1, 1) := by decide +kernel
theorem dX1_upTo_57 : decode cX1_upTo 57 = .ok (.iload_n 2, 1) := by decide +kernel
theorem dX1_upTo_58 : decode cX1_upTo 58 = .ok (.iconst 1, 1) := by decide +kernel
theorem dX1_upTo_59 : decode cX1_upTo 59 = .ok (.iadd, 1) := by decide +kernel
theorem dX1_upTo_60 : decode cX1_upTo 60 = .ok (.aload_n 1, 1) := by decide +kernel
theorem dX1_upTo_61 : decode cX1_upTo 61 = .ok (.iload_n 2, 1) := by decide +kernel
theorem dX1_upTo_62 : decode cX1_upTo 62 = .ok (.iconst 1, 1) := by decide +kernel
theorem dX1_upTo_63 : decode cX1_upTo 63 = .ok (.iadd, 1) := by decide +kernel
theorem dX1_upTo_64 : decode cX1_upTo 64 = .ok (.iaload, 1) := by decide +kernel
theorem dX1_upTo_65 : decode cX1_upTo 65 = .ok (.aload_n 1, 1) := by decide +kernel
theorem dX1_upTo_66 : decode cX1_upTo 66 = .ok (.iload_n 2, 1) := by decide +kernel
theorem dX1_upTo_67 : decode cX1_upTo 67 = .ok (.iaload, 1) := by decide +kernel
theorem dX1_upTo_68 : decode cX1_upTo 68 = .ok (.aload_n 0, 1) := by decide +kernel
theorem dX1_upTo_69 : decode cX1_upTo 69 = .ok (.aload_n 0, 1) := by decide +kernel
theorem dX1_upTo_70 : decode cX1_upTo 70 = .ok (.getfield 19, 3) := by decide +kernel
theorem dX1_upTo_73 : decode cX1_upTo 73 = .ok (.iload_n 3, 1) := by decide +kernel
theorem dX1_upTo_74 : decode cX1_upTo 74 = .ok (.iaload, 1) := by decide +kernel
theorem dX1_upTo_75 : decode cX1_upTo 75 = .ok (.invokevirtual 38, 3) := by decide +kernel
theorem dX1_upTo_78 : decode cX1_upTo 78 = .ok (.iadd, 1) := by decide +kernel
theorem dX1_upTo_79 : decode cX1_upTo 79 = .ok (.invokestatic 56, 3) := by decide +kernel
theorem dX1_upTo_82 : decode cX1_upTo 82 = .ok (.iastore, 1) := by decide +kernel
theorem dX1_upTo_83 : decode cX1_upTo 83 = .ok (.iconst 0, 1) := by decide +kernel
theorem dX1_upTo_84 : decode cX1_upTo 84 = .ok (.istore 4, 2) := by decide +kernel
theorem dX1_upTo_86 : decode cX1_upTo 86 = .ok (.iload_n 2, 1) := by decide +kernel
theorem dX1_upTo_87 : decode cX1_upTo 87 = .ok (.ifCond .le 84, 3) := by decide +kernel
theorem dX1_upTo_90 : decode cX1_upTo 90 = .ok (.iload 4, 2) := by decide +kernel
theorem dX1_upTo_92 : decode cX1_upTo 92 = .ok (.aload_n 0, 1) := by decide +kernel
theorem dX1_upTo_93 : decode cX1_upTo 93 = .ok (.getfield 49, 3) := by decide +kernel
theorem dX1_upTo_96 : decode cX1_upTo 96 = .ok (.if_icmp .ge 75, 3) := by decide +kernel
theorem dX1_upTo_99 : decode cX1_upTo 99 = .ok (.aload_n 0, 1) := by decide +kernel
theorem dX1_upTo_100 : decode cX1_upTo 100 = .ok (.aload_n 0, 1) := by decide +kernel
theorem dX1_upTo_101 : decode cX1_upTo 101 = .ok (.getfield 31, 3) := by decide +kernel
theorem dX1_upTo_104 : decode cX1_upTo 104 = .ok (.iload_n 2, 1) := by decide +kernel
theorem dX1_upTo_105 : decode cX1_upTo 105 = .ok (.iconst 1, 1) := by decide +kernel
theorem dX1_upTo_106 : decode cX1_upTo 106 = .ok (.isub, 1) := by decide +kernel
theorem dX1_upTo_107 : decode cX1_upTo 107 = .ok (.iaload, 1) := by decide +kernel
theorem dX1_upTo_108 : decode cX1_upTo 108 = .ok (.iload 4, 2) := by decide +kernel
theorem dX1_upTo_110 : decode cX1_upTo 110 = .ok (.invokevirtual 52, 3) := by decide +kernel
theorem dX1_upTo_113 : decode cX1_upTo 113 = .ok (.ifCond .eq 52, 3) := by decide +kernel
theorem dX1_upTo_116 : decode cX1_upTo 116 = .ok (.aload_n 0, 1) := by decide +kernel
theorem dX1_upTo_117 : decode cX1_upTo 117 = .ok (.getfield 28, 3) := by decide +kernel
theorem dX1_upTo_120 : decode cX1_upTo 120 = .ok (.iload 4, 2) := by decide +kernel
theorem dX1_upTo_122 : decode cX1_upTo 122 = .ok (.aaload, 1) := by decide +kernel
theorem dX1_upTo_123 : decode cX1_upTo 123 = .ok (.iload_n 3, 1) := by decide +kernel
theorem dX1_upTo_124 : decode cX1_upTo 124 = .ok (.baload, 1) := by decide +kernel
theorem dX1_upTo_125 : decode cX1_upTo 125 = .ok (.ifCond .eq 40, 3) := by decide +kernel
theorem dX1_upTo_128 : decode cX1_upTo 128 = .ok (.aload_n 1, 1) := by decide +kernel
theorem dX1_upTo_129 : decode cX1_upTo 129 = .ok (.iload_n 2, 1) := by decide +kernel
theorem dX1_upTo_130 : decode cX1_upTo 130 = .ok (.iconst 1, 1) := by decide +kernel
theorem dX1_upTo_131 : decode cX1_upTo 131 = .ok (.iadd, 1) := by decide +kernel
theorem dX1_upTo_132 : decode cX1_upTo 132 = .ok (.aload_n 1, 1) := by decide +kernel
theorem dX1_upTo_133 : decode cX1_upTo 133 = .ok (.iload_n 2, 1) := by decide +kernel
theorem dX1_upTo_134 : decode cX1_upTo 134 = .ok (.iconst 1, 1) := by decide +kernel
theorem dX1_upTo_135 : decode cX1_upTo 135 = .ok (.iadd, 1) := by decide +kernel
theorem dX1_upTo_136 : decode cX1_upTo 136 = .ok (.iaload, 1) := by decide +kernel
theorem dX1_upTo_137 : decode cX1_upTo 137 = .ok (.aload_n 1, 1) := by decide +kernel
theorem dX1_upTo_138 : decode cX1_upTo 138 = .ok (.iload_n 2, 1) := by decide +kernel
theorem dX1_upTo_139 : decode cX1_upTo 139 = .ok (.iconst 1, 1) := by decide +kernel
theorem dX1_upTo_140 : decode cX1_upTo 140 = .ok (.isub, 1) := by decide +kernel
theorem dX1_upTo_141 : decode cX1_upTo 141 = .ok (.iaload, 1) := by decide +kernel
theorem dX1_upTo_142 : decode cX1_upTo 142 = .ok (.aload_n 0, 1) := by decide +kernel
theorem dX1_upTo_143 : decode cX1_upTo 143 = .ok (.aload_n 0, 1) := by decide +kernel
theorem dX1_upTo_144 : decode cX1_upTo 144 = .ok (.getfield 19, 3) := by decide +kernel
theorem dX1_upTo_147 : decode cX1_upTo 147 = .ok (.iload_n 3, 1) := by decide +kernel
theorem dX1_upTo_148 : decode cX1_upTo 148 = .ok (.iaload, 1) := by decide +kernel
theorem dX1_upTo_149 : decode cX1_upTo 149 = .ok (.aload_n 0, 1) := by decide +kernel
theorem dX1_upTo_150 : decode cX1_upTo 150 = .ok (.getfield 19, 3) := by decide +kernel
theorem dX1_upTo_153 : decode cX1_upTo 153 = .ok (.iload 4, 2) := by decide +kernel
theorem dX1_upTo_155 : decode cX1_upTo 155 = .ok (.iaload, 1) := by decide +kernel
theorem dX1_upTo_156 : decode cX1_upTo 156 = .ok (.iadd, 1) := by decide +kernel
theorem dX1_upTo_157 : decode cX1_upTo 157 = .ok (.invokevirtual 38, 3) := by decide +kernel
theorem dX1_upTo_160 : decode cX1_upTo 160 = .ok (.iadd, 1) := by decide +kernel
theorem dX1_upTo_161 : decode cX1_upTo 161 = .ok (.invokestatic 56, 3) := by decide +kernel
theorem dX1_upTo_164 : decode cX1_upTo 164 = .ok (.iastore, 1) := by decide +kernel
theorem dX1_upTo_165 : decode cX1_upTo 165 = .ok (.iinc 4 1, 3) := by decide +kernel
theorem dX1_upTo_168 : decode cX1_upTo 168 = .ok (.goto (-82), 3) := by decide +kernel
theorem dX1_upTo_171 : decode cX1_upTo 171 = .ok (.iinc 3 1, 3) := by decide +kernel
theorem dX1_upTo_174 : decode cX1_upTo 174 = .ok (.goto (-143), 3) := by decide +kernel
theorem dX1_upTo_177 : decode cX1_upTo 177 = .ok (.iinc 2 1, 3) := by decide +kernel
theorem dX1_upTo_180 : decode cX1_upTo 180 = .ok (.goto (-168), 3) := by decide +kernel
theorem dX1_upTo_183 : decode cX1_upTo 183 = .ok (.aload_n 1, 1) := by decide +kernel
theorem dX1_upTo_184 : decode cX1_upTo 184 = .ok (.areturn, 1) := by decide +kernel
set_option maxRecDepth 20000 in
theorem ggX1_cheapest_X1_upTo : GoodIn wsX1_cheapest wsX1_upTo := goodIn_r _ [6, 1, 7, 8, 9, 10, 11, 12, 13, 14, 15, 16, 17, 5, 18, 19, 20, 21, 22, 23, 24, 30, 31, 32, 33, 34, 35, 36, 37, 38, 39, 40] (by decide +kernel) (by decide +kernel)
set_option maxRecDepth 20000 in
theorem gX1_cheapest_X1_upTo : GoodIn wsX1_cheapest (wsV RX1 62 RX1 yX1_upTo wsX1_upTo) := goodIn_app (goodIn_of _ (by decide +kernel)) ggX1_cheapest_X1_upTo
set_option maxRecDepth 20000 in
theorem ggX1_cheapest_X1_lifted : GoodIn wsX1_cheapest wsX1_lifted := goodIn_r _ [28, 1, 29, 30, 31, 32, 33, 34, 35, 36, 37, 38, 39, 40] (by decide +kernel) (by decide +kernel)
set_option maxRecDepth 20000 in
theorem gX1_cheapest_X1_lifted : GoodIn wsX1_cheapest (wsV RX1 46 RX1 yX1_lifted wsX1_lifted) := goodIn_app (goodIn_of _ (by decide +kernel)) ggX1_cheapest_X1_lifted
theorem dX1_cheapest_0 : decode cX1_cheapest 0 = .ok (.aload_n 0, 1) := by decide +kernel
theorem dX1_cheapest_1 : decode cX1_cheapest 1 = .ok (.aload_n 0, 1) := by decide +kernel
theorem dX1_cheapest_2 : decode cX1_cheapest 2 = .ok (.invokevirtual 62, 3) := by decide +kernel
theorem dX1_cheapest_5 : decode cX1_cheapest 5 = .ok (.aload_n 0, 1) := by decide +kernel
theorem dX1_cheapest_6 : decode cX1_cheapest 6 = .ok (.getfield 31, 3) := by decide +kernel
theorem dX1_cheapest_9 : decode cX1_cheapest 9 = .ok (.arraylength, 1) := by decide +kernel
theorem dX1_cheapest_10 : decode cX1_cheapest 10 = .ok (.iaload, 1) := by decide +kernel
theorem dX1_cheapest_11 : decode cX1_cheapest 11 = .ok (.invokevirtual 46, 3) := by decide +kernel
theorem dX1_cheapest_14 : decode cX1_cheapest 14 = .ok (.ireturn, 1) := by decide +kernel
set_option maxRecDepth 20000 in
theorem ggX1_rest_X1_init : GoodIn wsX1_rest wsX1_init := goodIn_r _ [14, 15, 16, 17, 5, 6, 18, 11, 7, 19, 20, 8, 9, 10, 21, 22, 23, 24, 25, 26, 27, 28, 29, 30, 31, 32] (by decide +kernel) (by decide +kernel)
set_option maxRecDepth 20000 in
theorem gX1_rest_X1_init : GoodIn wsX1_rest (wsX1_init) := ggX1_rest_X1_init
theorem dX1_rest_0 : decode cX1_rest 0 = .ok (.new 8, 3) := by decide +kernel
theorem dX1_rest_3 : decode cX1_rest 3 = .ok (.dup, 1) := by decide +kernel
theorem dX1_rest_4 : decode cX1_rest 4 = .ok (.invokespecial 66, 3) := by decide +kernel
theorem dX1_rest_7 : decode cX1_rest 7 = .ok (.astore_n 2, 1) := by decide +kernel
theorem dX1_rest_8 : decode cX1_rest 8 = .ok (.aload_n 2, 1) := by decide +kernel
theorem dX1_rest_9 : decode cX1_rest 9 = .ok (.aload_n 0, 1) := by decide +kernel
theorem dX1_rest_10 : decode cX1_rest 10 = .ok (.getfield 49, 3) := by decide +kernel
theorem dX1_rest_13 : decode cX1_rest 13 = .ok (.putfield 49, 3) := by decide +kernel
theorem dX1_rest_16 : decode cX1_rest 16 = .ok (.aload_n 2, 1) := by decide +kernel
theorem dX1_rest_17 : decode cX1_rest 17 = .ok (.aload_n 0, 1) := by decide +kernel
theorem dX1_rest_18 : decode cX1_rest 18 = .ok (.getfield 7, 3) := by decide +kernel
theorem dX1_rest_21 : decode cX1_rest 21 = .ok (.putfield 7, 3) := by decide +kernel
theorem dX1_rest_24 : decode cX1_rest 24 = .ok (.aload_n 2, 1) := by decide +kernel
theorem dX1_rest_25 : decode cX1_rest 25 = .ok (.iconst 0, 1) := by decide +kernel
theorem dX1_rest_26 : decode cX1_rest 26 = .ok (.putfield 13, 3) := by decide +kernel
theorem dX1_rest_29 : decode cX1_rest 29 = .ok (.iconst 0, 1) := by decide +kernel
theorem dX1_rest_30 : decode cX1_rest 30 = .ok (.istore_n 3, 1) := by decide +kernel
theorem dX1_rest_31 : decode cX1_rest 31 = .ok (.iload_n 3, 1) := by decide +kernel
theorem dX1_rest_32 : decode cX1_rest 32 = .ok (.aload_n 0, 1) := by decide +kernel
theorem dX1_rest_33 : decode cX1_rest 33 = .ok (.getfield 49, 3) := by decide +kernel
theorem dX1_rest_36 : decode cX1_rest 36 = .ok (.if_icmp .ge 75, 3) := by decide +kernel
theorem dX1_rest_39 : decode cX1_rest 39 = .ok (.aload_n 2, 1) := by decide +kernel
theorem dX1_rest_40 : decode cX1_rest 40 = .ok (.getfield 19, 3) := by decide +kernel
theorem dX1_rest_43 : decode cX1_rest 43 = .ok (.iload_n 3, 1) := by decide +kernel
theorem dX1_rest_44 : decode cX1_rest 44 = .ok (.aload_n 0, 1) := by decide +kernel
theorem dX1_rest_45 : decode cX1_rest 45 = .ok (.getfield 19, 3) := by decide +kernel
theorem dX1_rest_48 : decode cX1_rest 48 = .ok (.iload_n 3, 1) := by decide +kernel
theorem dX1_rest_49 : decode cX1_rest 49 = .ok (.iaload, 1) := by decide +kernel
theorem dX1_rest_50 : decode cX1_rest 50 = .ok (.iastore, 1) := by decide +kernel
theorem dX1_rest_51 : decode cX1_rest 51 = .ok (.iconst 0, 1) := by decide +kernel
theorem dX1_rest_52 : decode cX1_rest 52 = .ok (.istore 4, 2) := by decide +kernel
theorem dX1_rest_54 : decode cX1_rest 54 = .ok (.iload 4, 2) := by decide +kernel
theorem dX1_rest_56 : decode cX1_rest 56 = .ok (.aload_n 0, 1) := by decide +kernel
theorem dX1_rest_57 : decode cX1_rest 57 = .ok (.getfield 49, 3) := by decide +kernel
theorem dX1_rest_60 : decode cX1_rest 60 = .ok (.if_icmp .ge 45, 3) := by decide +kernel
theorem dX1_rest_63 : decode cX1_rest 63 = .ok (.aload_n 2, 1) := by decide +kernel
theorem dX1_rest_64 : decode cX1_rest 64 = .ok (.getfield 25, 3) := by decide +kernel
theorem dX1_rest_67 : decode cX1_rest 67 = .ok (.iload_n 3, 1) := by decide +kernel
theorem dX1_rest_68 : decode cX1_rest 68 = .ok (.aaload, 1) := by decide +kernel
theorem dX1_rest_69 : decode cX1_rest 69 = .ok (.iload 4, 2) := by decide +kernel
theorem dX1_rest_71 : decode cX1_rest 71 = .ok (.aload_n 0, 1) := by decide +kernel
theorem dX1_rest_72 : decode cX1_rest 72 = .ok (.getfield 25, 3) := by decide +kernel
theorem dX1_rest_75 : decode cX1_rest 75 = .ok (.iload_n 3, 1) := by decide +kernel
theorem dX1_rest_76 : decode cX1_rest 76 = .ok (.aaload, 1) := by decide +kernel
theorem dX1_rest_77 : decode cX1_rest 77 = .ok (.iload 4, 2) := by decide +kernel
theorem dX1_rest_79 : decode cX1_rest 79 = .ok (.baload, 1) := by decide +kernel
theorem dX1_rest_80 : decode cX1_rest 80 = .ok (.bastore, 1) := by decide +kernel
theorem dX1_rest_81 : decode cX1_rest 81 = .ok (.aload_n 2, 1) := by decide +kernel
theorem dX1_rest_82 : decode cX1_rest 82 = .ok (.getfield 28, 3) := by decide +kernel
theorem dX1_rest_85 : decode cX1_rest 85 = .ok (.iload_n 3, 1) := by decide +kernel
theorem dX1_rest_86 : decode cX1_rest 86 = .ok (.aaload, 1) := by decide +kernel
theorem dX1_rest_87 : decode cX1_rest 87 = .ok (.iload 4, 2) := by decide +kernel
theorem dX1_rest_89 : decode cX1_rest 89 = .ok (.aload_n 0, 1) := by decide +kernel
theorem dX1_rest_90 : decode cX1_rest 90 = .ok (.getfield 28, 3) := by decide +kernel
theorem dX1_rest_93 : decode cX1_rest 93 = .ok (.iload_n 3, 1) := by decide +kernel
theorem dX1_rest_94 : decode cX1_rest 94 = .ok (.aaload, 1) := by decide +kernel
theorem dX1_rest_95 : decode cX1_rest 95 = .ok (.iload 4, 2) := by decide +kernel
theorem dX1_rest_97 : decode cX1_rest 97 = .ok (.baload, 1) := by decide +kernel
theorem dX1_rest_98 : decode cX1_rest 98 = .ok (.bastore, 1) := by decide +kernel
theorem dX1_rest_99 : decode cX1_rest 99 = .ok (.iinc 4 1, 3) := by decide +kernel
theorem dX1_rest_102 : decode cX1_rest 102 = .ok (.goto (-48), 3) := by decide +kernel
theorem dX1_rest_105 : decode cX1_rest 105 = .ok (.iinc 3 1, 3) := by decide +kernel
theorem dX1_rest_108 : decode cX1_rest 108 = .ok (.goto (-77), 3) := by decide +kernel
theorem dX1_rest_111 : decode cX1_rest 111 = .ok (.aload_n 2, 1) := by decide +kernel
theorem dX1_rest_112 : decode cX1_rest 112 = .ok (.aload_n 0, 1) := by decide +kernel
theorem dX1_rest_113 : decode cX1_rest 113 = .ok (.getfield 31, 3) := by decide +kernel
theorem dX1_rest_116 : decode cX1_rest 116 = .ok (.arraylength, 1) := by decide +kernel
theorem dX1_rest_117 : decode cX1_rest 117 = .ok (.iload_n 1, 1) := by decide +kernel
theorem dX1_rest_118 : decode cX1_rest 118 = .ok (.isub, 1) := by decide +kernel
theorem dX1_rest_119 : decode cX1_rest 119 = .ok (.newarray .int, 2) := by decide +kernel
theorem dX1_rest_121 : decode cX1_rest 121 = .ok (.putfield 31, 3) := by decide +kernel
theorem dX1_rest_124 : decode cX1_rest 124 = .ok (.iconst 0, 1) := by decide +kernel
theorem dX1_rest_125 : decode cX1_rest 125 = .ok (.istore_n 3, 1) := by decide +kernel
theorem dX1_rest_126 : decode cX1_rest 126 = .ok (.iload_n 3, 1) := by decide +kernel
theorem dX1_rest_127 : decode cX1_rest 127 = .ok (.aload_n 2, 1) := by decide +kernel
theorem dX1_rest_128 : decode cX1_rest 128 = .ok (.getfield 31, 3) := by decide +kernel
theorem dX1_rest_131 : decode cX1_rest 131 = .ok (.arraylength, 1) := by decide +kernel
theorem dX1_rest_132 : decode cX1_rest 132 = .ok (.if_icmp .ge 23, 3) := by decide +kernel
theorem dX1_rest_135 : decode cX1_rest 135 = .ok (.aload_n 2, 1) := by decide +kernel
theorem dX1_rest_136 : decode cX1_rest 136 = .ok (.getfield 31, 3) := by decide +kernel
theorem dX1_rest_139 : decode cX1_rest 139 = .ok (.iload_n 3, 1) := by decide +kernel
theorem dX1_rest_140 : decode cX1_rest 140 = .ok (.aload_n 0, 1) := by decide +kernel
theorem dX1_rest_141 : decode cX1_rest 141 = .ok (.getfield 31, 3) := by decide +kernel
theorem dX1_rest_144 : decode cX1_rest 144 = .ok (.iload_n 1, 1) := by decide +kernel
theorem dX1_rest_145 : decode cX1_rest 145 = .ok (.iload_n 3, 1) := by decide +kernel
theorem dX1_rest_146 : decode cX1_rest 146 = .ok (.iadd, 1) := by decide +kernel
theorem dX1_rest_147 : decode cX1_rest 147 = .ok (.iaload, 1) := by decide +kernel
theorem dX1_rest_148 : decode cX1_rest 148 = .ok (.iastore, 1) := by decide +kernel
theorem dX1_rest_149 : decode cX1_rest 149 = .ok (.iinc 3 1, 3) := by decide +kernel
theorem dX1_rest_152 : decode cX1_rest 152 = .ok (.goto (-26), 3) := by decide +kernel
theorem dX1_rest_155 : decode cX1_rest 155 = .ok (.aload_n 2, 1) := by decide +kernel
theorem dX1_rest_156 : decode cX1_rest 156 = .ok (.areturn, 1) := by decide +kernel
set_option maxRecDepth 20000 in
theorem ggX1_wording_X1_rest : GoodIn wsX1_wording wsX1_rest := goodIn_r _ [10, 11, 12, 9, 3, 13, 14, 4, 15, 5, 1, 2, 16, 17, 18, 19, 20, 21, 22, 23, 24, 25, 50, 51, 52, 53, 54, 55, 56, 57, 58, 59, 60] (by decide +kernel) (by decide +kernel)
set_option maxRecDepth 20000 in
theorem gX1_wording_X1_rest : GoodIn wsX1_wording (wsV RX1 67 RX1 yX1_rest wsX1_rest) := goodIn_app (goodIn_of _ (by decide +kernel)) ggX1_wording_X1_rest
set_option maxRecDepth 20000 in
theorem ggX1_wording_X1_cheapest : GoodIn wsX1_wording wsX1_cheapest := goodIn_r _ [29, 1, 30, 31, 32, 9, 33, 2, 3, 4, 34, 35, 36, 37, 5, 38, 39, 40, 41, 15, 42, 43, 44, 45, 13, 46, 47, 48, 49, 14, 50, 51, 52, 53, 54, 55, 56, 57, 58, 59, 60] (by decide +kernel) (by decide +kernel)
set_option maxRecDepth 20000 in
theorem gX1_wording_X1_cheapest : GoodIn wsX1_wording (wsV RX1 71 RX1 yX1_cheapest wsX1_cheapest) := goodIn_app (goodIn_of _ (by decide +kernel)) ggX1_wording_X1_cheapest
set_option maxRecDepth 20000 in
theorem ggX1_wording_X1_may : GoodIn wsX1_wording wsX1_may := goodIn_r _ [41, 15, 50, 51, 52, 53, 54, 55, 56, 57, 58, 59, 60] (by decide +kernel) (by decide +kernel)
set_option maxRecDepth 20000 in
theorem gX1_wording_X1_may : GoodIn wsX1_wording (wsV RX1 52 RX1 yX1_may wsX1_may) := goodIn_app (goodIn_of _ (by decide +kernel)) ggX1_wording_X1_may
set_option maxRecDepth 20000 in
theorem ggX1_wording_X1_counts : GoodIn wsX1_wording wsX1_counts := goodIn_r _ [45, 13, 50, 51, 52, 53, 54, 55, 56, 57, 58, 59, 60] (by decide +kernel) (by decide +kernel)
set_option maxRecDepth 20000 in
theorem gX1_wording_X1_counts : GoodIn wsX1_wording (wsV RX1 38 RX1 yX1_counts wsX1_counts) := goodIn_app (goodIn_of _ (by decide +kernel)) ggX1_wording_X1_counts
theorem dX1_wording_0 : decode cX1_wording 0 = .ok (.aload_n 0, 1) := by decide +kernel
theorem dX1_wording_1 : decode cX1_wording 1 = .ok (.getfield 31, 3) := by decide +kernel
theorem dX1_wording_4 : decode cX1_wording 4 = .ok (.arraylength, 1) := by decide +kernel
theorem dX1_wording_5 : decode cX1_wording 5 = .ok (.istore_n 1, 1) := by decide +kernel
theorem dX1_wording_6 : decode cX1_wording 6 = .ok (.iload_n 1, 1) := by decide +kernel
theorem dX1_wording_7 : decode cX1_wording 7 = .ok (.newarray .int, 2) := by decide +kernel
theorem dX1_wording_9 : decode cX1_wording 9 = .ok (.astore_n 2, 1) := by decide +kernel
theorem dX1_wording_10 : decode cX1_wording 10 = .ok (.iload_n 1, 1) := by decide +kernel
theorem dX1_wording_11 : decode cX1_wording 11 = .ok (.iconst 2, 1) := by decide +kernel
theorem dX1_wording_12 : decode cX1_wording 12 = .ok (.iadd, 1) := by decide +kernel
theorem dX1_wording_13 : decode cX1_wording 13 = .ok (.newarray .int, 2) := by decide +kernel
theorem dX1_wording_15 : decode cX1_wording 15 = .ok (.astore_n 3, 1) := by decide +kernel
theorem dX1_wording_16 : decode cX1_wording 16 = .ok (.iconst 0, 1) := by decide +kernel
theorem dX1_wording_17 : decode cX1_wording 17 = .ok (.istore 4, 2) := by decide +kernel
theorem dX1_wording_19 : decode cX1_wording 19 = .ok (.iload 4, 2) := by decide +kernel
theorem dX1_wording_21 : decode cX1_wording 21 = .ok (.iload_n 1, 1) := by decide +kernel
theorem dX1_wording_22 : decode cX1_wording 22 = .ok (.if_icmp .gt 32, 3) := by decide +kernel
theorem dX1_wording_25 : decode cX1_wording 25 = .ok (.aload_n 3, 1) := by decide +kernel
theorem dX1_wording_26 : decode cX1_wording 26 = .ok (.iload 4, 2) := by decide +kernel
theorem dX1_wording_28 : decode cX1_wording 28 = .ok (.iload 4, 2) := by decide +kernel
theorem dX1_wording_30 : decode cX1_wording 30 = .ok (.iload_n 1, 1) := by decide +kernel
theorem dX1_wording_31 : decode cX1_wording 31 = .ok (.if_icmp .ne 7, 3) := by decide +kernel
theorem dX1_wording_34 : decode cX1_wording 34 = .ok (.iconst 0, 1) := by decide +kernel
theorem dX1_wording_35 : decode cX1_wording 35 = .ok (.goto 12, 3) := by decide +kernel
theorem dX1_wording_38 : decode cX1_wording 38 = .ok (.aload_n 0, 1) := by decide +kernel
theorem dX1_wording_39 : decode cX1_wording 39 = .ok (.iload 4, 2) := by decide +kernel
theorem dX1_wording_41 : decode cX1_wording 41 = .ok (.invokevirtual 67, 3) := by decide +kernel
theorem dX1_wording_44 : decode cX1_wording 44 = .ok (.invokevirtual 71, 3) := by decide +kernel
theorem dX1_wording_47 : decode cX1_wording 47 = .ok (.iastore, 1) := by decide +kernel
theorem dX1_wording_48 : decode cX1_wording 48 = .ok (.iinc 4 1, 3) := by decide +kernel
theorem dX1_wording_51 : decode cX1_wording 51 = .ok (.goto (-32), 3) := by decide +kernel
theorem dX1_wording_54 : decode cX1_wording 54 = .ok (.iconst 0, 1) := by decide +kernel
theorem dX1_wording_55 : decode cX1_wording 55 = .ok (.istore 4, 2) := by decide +kernel
theorem dX1_wording_57 : decode cX1_wording 57 = .ok (.iload 4, 2) := by decide +kernel
theorem dX1_wording_59 : decode cX1_wording 59 = .ok (.iload_n 1, 1) := by decide +kernel
theorem dX1_wording_60 : decode cX1_wording 60 = .ok (.if_icmp .ge 231, 3) := by decide +kernel
theorem dX1_wording_63 : decode cX1_wording 63 = .ok (.iconst (-1), 1) := by decide +kernel
theorem dX1_wording_64 : decode cX1_wording 64 = .ok (.istore 5, 2) := by decide +kernel
theorem dX1_wording_66 : decode cX1_wording 66 = .ok (.aload_n 0, 1) := by decide +kernel
theorem dX1_wording_67 : decode cX1_wording 67 = .ok (.getfield 49, 3) := by decide +kernel
theorem dX1_wording_70 : decode cX1_wording 70 = .ok (.iconst 1, 1) := by decide +kernel
theorem dX1_wording_71 : decode cX1_wording 71 = .ok (.isub, 1) := by decide +kernel
theorem dX1_wording_72 : decode cX1_wording 72 = .ok (.istore 6, 2) := by decide +kernel
theorem dX1_wording_74 : decode cX1_wording 74 = .ok (.iload 6, 2) := by decide +kernel
theorem dX1_wording_76 : decode cX1_wording 76 = .ok (.ifCond .lt 54, 3) := by decide +kernel
theorem dX1_wording_79 : decode cX1_wording 79 = .ok (.aload_n 0, 1) := by decide +kernel
theorem dX1_wording_80 : decode cX1_wording 80 = .ok (.aload_n 0, 1) := by decide +kernel
theorem dX1_wording_81 : decode cX1_wording 81 = .ok (.getfield 31, 3) := by decide +kernel
theorem dX1_wording_84 : decode cX1_wording 84 = .ok (.iload 4, 2) := by decide +kernel
theorem dX1_wording_86 : decode cX1_wording 86 = .ok (.iaload, 1) := by decide +kernel
theorem dX1_wording_87 : decode cX1_wording 87 = .ok (.iload 6, 2) := by decide +kernel
theorem dX1_wording_89 : decode cX1_wording 89 = .ok (.invokevirtual 52, 3) := by decide +kernel
theorem dX1_wording_92 : decode cX1_wording 92 = .ok (.ifCond .eq 32, 3) := by decide +kernel
theorem dX1_wording_95 : decode cX1_wording 95 = .ok (.aload_n 0, 1) := by decide +kernel
theorem dX1_wording_96 : decode cX1_wording 96 = .ok (.aload_n 0, 1) := by decide +kernel
theorem dX1_wording_97 : decode cX1_wording 97 = .ok (.getfield 19, 3) := by decide +kernel
theorem dX1_wording_100 : decode cX1_wording 100 = .ok (.iload 6, 2) := by decide +kernel
theorem dX1_wording_102 : decode cX1_wording 102 = .ok (.iaload, 1) := by decide +kernel
theorem dX1_wording_103 : decode cX1_wording 103 = .ok (.invokevirtual 38, 3) := by decide +kernel
theorem dX1_wording_106 : decode cX1_wording 106 = .ok (.aload_n 3, 1) := by decide +kernel
theorem dX1_wording_107 : decode cX1_wording 107 = .ok (.iload 4, 2) := by decide +kernel
theorem dX1_wording_109 : decode cX1_wording 109 = .ok (.iconst 1, 1) := by decide +kernel
theorem dX1_wording_110 : decode cX1_wording 110 = .ok (.iadd, 1) := by decide +kernel
theorem dX1_wording_111 : decode cX1_wording 111 = .ok (.iaload, 1) := by decide +kernel
theorem dX1_wording_112 : decode cX1_wording 112 = .ok (.iadd, 1) := by decide +kernel
theorem dX1_wording_113 : decode cX1_wording 113 = .ok (.aload_n 3, 1) := by decide +kernel
theorem dX1_wording_114 : decode cX1_wording 114 = .ok (.iload 4, 2) := by decide +kernel
theorem dX1_wording_116 : decode cX1_wording 116 = .ok (.iaload, 1) := by decide +kernel
theorem dX1_wording_117 : decode cX1_wording 117 = .ok (.if_icmp .ne 7, 3) := by decide +kernel
theorem dX1_wording_120 : decode cX1_wording 120 = .ok (.iload 6, 2) := by decide +kernel
theorem dX1_wording_122 : decode cX1_wording 122 = .ok (.istore 5, 2) := by decide +kernel
theorem dX1_wording_124 : decode cX1_wording 124 = .ok (.iinc 6 (-1), 3) := by decide +kernel
theorem dX1_wording_127 : decode cX1_wording 127 = .ok (.goto (-53), 3) := by decide +kernel
theorem dX1_wording_130 : decode cX1_wording 130 = .ok (.iload 5, 2) := by decide +kernel
theorem dX1_wording_132 : decode cX1_wording 132 = .ok (.ifCond .lt 15, 3) := by decide +kernel
theorem dX1_wording_135 : decode cX1_wording 135 = .ok (.aload_n 2, 1) := by decide +kernel
theorem dX1_wording_136 : decode cX1_wording 136 = .ok (.iload 4, 2) := by decide +kernel
theorem dX1_wording_138 : decode cX1_wording 138 = .ok (.iload 5, 2) := by decide +kernel
theorem dX1_wording_140 : decode cX1_wording 140 = .ok (.iastore, 1) := by decide +kernel
theorem dX1_wording_141 : decode cX1_wording 141 = .ok (.iinc 4 1, 3) := by decide +kernel
theorem dX1_wording_144 : decode cX1_wording 144 = .ok (.goto (-87), 3) := by decide +kernel
theorem dX1_wording_147 : decode cX1_wording 147 = .ok (.aload_n 0, 1) := by decide +kernel
theorem dX1_wording_148 : decode cX1_wording 148 = .ok (.getfield 49, 3) := by decide +kernel
theorem dX1_wording_151 : decode cX1_wording 151 = .ok (.iconst 1, 1) := by decide +kernel
theorem dX1_wording_152 : decode cX1_wording 152 = .ok (.isub, 1) := by decide +kernel
theorem dX1_wording_153 : decode cX1_wording 153 = .ok (.istore 6, 2) := by decide +kernel
theorem dX1_wording_155 : decode cX1_wording 155 = .ok (.iload 6, 2) := by decide +kernel
theorem dX1_wording_157 : decode cX1_wording 157 = .ok (.ifCond .lt 128, 3) := by decide +kernel
theorem dX1_wording_160 : decode cX1_wording 160 = .ok (.aload_n 0, 1) := by decide +kernel
theorem dX1_wording_161 : decode cX1_wording 161 = .ok (.getfield 49, 3) := by decide +kernel
theorem dX1_wording_164 : decode cX1_wording 164 = .ok (.iconst 1, 1) := by decide +kernel
theorem dX1_wording_165 : decode cX1_wording 165 = .ok (.isub, 1) := by decide +kernel
theorem dX1_wording_166 : decode cX1_wording 166 = .ok (.istore 7, 2) := by decide +kernel
theorem dX1_wording_168 : decode cX1_wording 168 = .ok (.iload 7, 2) := by decide +kernel
theorem dX1_wording_170 : decode cX1_wording 170 = .ok (.ifCond .lt 109, 3) := by decide +kernel
theorem dX1_wording_173 : decode cX1_wording 173 = .ok (.aload_n 0, 1) := by decide +kernel
theorem dX1_wording_174 : decode cX1_wording 174 = .ok (.aload_n 0, 1) := by decide +kernel
theorem dX1_wording_175 : decode cX1_wording 175 = .ok (.getfield 31, 3) := by decide +kernel
theorem dX1_wording_178 : decode cX1_wording 178 = .ok (.iload 4, 2) := by decide +kernel
theorem dX1_wording_180 : decode cX1_wording 180 = .ok (.iaload, 1) := by decide +kernel
theorem dX1_wording_181 : decode cX1_wording 181 = .ok (.iload 6, 2) := by decide +kernel
theorem dX1_wording_183 : decode cX1_wording 183 = .ok (.invokevirtual 52, 3) := by decide +kernel
theorem dX1_wording_186 : decode cX1_wording 186 = .ok (.ifCond .eq 87, 3) := by decide +kernel
theorem dX1_wording_189 : decode cX1_wording 189 = .ok (.aload_n 0, 1) := by decide +kernel
theorem dX1_wording_190 : decode cX1_wording 190 = .ok (.aload_n 0, 1) := by decide +kernel
theorem dX1_wording_191 : decode cX1_wording 191 = .ok (.getfield 31, 3) := by decide +kernel
theorem dX1_wording_194 : decode cX1_wording 194 = .ok (.iload 4, 2) := by decide +kernel
theorem dX1_wording_196 : decode cX1_wording 196 = .ok (.iconst 1, 1) := by decide +kernel
theorem dX1_wording_197 : decode cX1_wording 197 = .ok (.iadd, 1) := by decide +kernel
theorem dX1_wording_198 : decode cX1_wording 198 = .ok (.iaload, 1) := by decide +kernel
theorem dX1_wording_199 : decode cX1_wording 199 = .ok (.iload 7, 2) := by decide +kernel
theorem dX1_wording_201 : decode cX1_wording 201 = .ok (.invokevirtual 52, 3) := by decide +kernel
theorem dX1_wording_204 : decode cX1_wording 204 = .ok (.ifCond .eq 69, 3) := by decide +kernel
theorem dX1_wording_207 : decode cX1_wording 207 = .ok (.aload_n 0, 1) := by decide +kernel
theorem dX1_wording_208 : decode cX1_wording 208 = .ok (.getfield 28, 3) := by decide +kernel
theorem dX1_wording_211 : decode cX1_wording 211 = .ok (.iload 6, 2) := by decide +kernel
theorem dX1_wording_213 : decode cX1_wording 213 = .ok (.aaload, 1) := by decide +kernel
theorem dX1_wording_214 : decode cX1_wording 214 = .ok (.iload 7, 2) := by decide +kernel
theorem dX1_wording_216 : decode cX1_wording 216 = .ok (.baload, 1) := by decide +kernel
theorem dX1_wording_217 : decode cX1_wording 217 = .ok (.ifCond .eq 56, 3) := by decide +kernel
theorem dX1_wording_220 : decode cX1_wording 220 = .ok (.aload_n 0, 1) := by decide +kernel
theorem dX1_wording_221 : decode cX1_wording 221 = .ok (.aload_n 0, 1) := by decide +kernel
theorem dX1_wording_222 : decode cX1_wording 222 = .ok (.getfield 19, 3) := by decide +kernel
theorem dX1_wording_225 : decode cX1_wording 225 = .ok (.iload 6, 2) := by decide +kernel
theorem dX1_wording_227 : decode cX1_wording 227 = .ok (.iaload, 1) := by decide +kernel
theorem dX1_wording_228 : decode cX1_wording 228 = .ok (.aload_n 0, 1) := by decide +kernel
theorem dX1_wording_229 : decode cX1_wording 229 = .ok (.getfield 19, 3) := by decide +kernel
theorem dX1_wording_232 : decode cX1_wording 232 = .ok (.iload 7, 2) := by decide +kernel
theorem dX1_wording_234 : decode cX1_wording 234 = .ok (.iaload, 1) := by decide +kernel
theorem dX1_wording_235 : decode cX1_wording 235 = .ok (.iadd, 1) := by decide +kernel
theorem dX1_wording_236 : decode cX1_wording 236 = .ok (.invokevirtual 38, 3) := by decide +kernel
theorem dX1_wording_239 : decode cX1_wording 239 = .ok (.aload_n 3, 1) := by decide +kernel
theorem dX1_wording_240 : decode cX1_wording 240 = .ok (.iload 4, 2) := by decide +kernel
theorem dX1_wording_242 : decode cX1_wording 242 = .ok (.iconst 2, 1) := by decide +kernel
theorem dX1_wording_243 : decode cX1_wording 243 = .ok (.iadd, 1) := by decide +kernel
theorem dX1_wording_244 : decode cX1_wording 244 = .ok (.iaload, 1) := by decide +kernel
theorem dX1_wording_245 : decode cX1_wording 245 = .ok (.iadd, 1) := by decide +kernel
theorem dX1_wording_246 : decode cX1_wording 246 = .ok (.aload_n 3, 1) := by decide +kernel
theorem dX1_wording_247 : decode cX1_wording 247 = .ok (.iload 4, 2) := by decide +kernel
theorem dX1_wording_249 : decode cX1_wording 249 = .ok (.iaload, 1) := by decide +kernel
theorem dX1_wording_250 : decode cX1_wording 250 = .ok (.if_icmp .eq 6, 3) := by decide +kernel
theorem dX1_wording_253 : decode cX1_wording 253 = .ok (.goto 20, 3) := by decide +kernel
theorem dX1_wording_256 : decode cX1_wording 256 = .ok (.aload_n 2, 1) := by decide +kernel
theorem dX1_wording_257 : decode cX1_wording 257 = .ok (.iload 4, 2) := by decide +kernel
theorem dX1_wording_259 : decode cX1_wording 259 = .ok (.bipush 100, 2) := by decide +kernel
theorem dX1_wording_261 : decode cX1_wording 261 = .ok (.iload 6, 2) := by decide +kernel
theorem dX1_wording_263 : decode cX1_wording 263 = .ok (.iadd, 1) := by decide +kernel
theorem dX1_wording_264 : decode cX1_wording 264 = .ok (.iastore, 1) := by decide +kernel
theorem dX1_wording_265 : decode cX1_wording 265 = .ok (.aload_n 2, 1) := by decide +kernel
theorem dX1_wording_266 : decode cX1_wording 266 = .ok (.iload 4, 2) := by decide +kernel
theorem dX1_wording_268 : decode cX1_wording 268 = .ok (.iconst 1, 1) := by decide +kernel
theorem dX1_wording_269 : decode cX1_wording 269 = .ok (.iadd, 1) := by decide +kernel
theorem dX1_wording_270 : decode cX1_wording 270 = .ok (.iload 7, 2) := by decide +kernel
theorem dX1_wording_272 : decode cX1_wording 272 = .ok (.iastore, 1) := by decide +kernel
theorem dX1_wording_273 : decode cX1_wording 273 = .ok (.iinc 7 (-1), 3) := by decide +kernel
theorem dX1_wording_276 : decode cX1_wording 276 = .ok (.goto (-108), 3) := by decide +kernel
theorem dX1_wording_279 : decode cX1_wording 279 = .ok (.iinc 6 (-1), 3) := by decide +kernel
theorem dX1_wording_282 : decode cX1_wording 282 = .ok (.goto (-127), 3) := by decide +kernel
theorem dX1_wording_285 : decode cX1_wording 285 = .ok (.iinc 4 2, 3) := by decide +kernel
theorem dX1_wording_288 : decode cX1_wording 288 = .ok (.goto (-231), 3) := by decide +kernel
theorem dX1_wording_291 : decode cX1_wording 291 = .ok (.aload_n 2, 1) := by decide +kernel
theorem dX1_wording_292 : decode cX1_wording 292 = .ok (.areturn, 1) := by decide +kernel
set_option maxRecDepth 20000 in
theorem ggX1_isSame_X0_words : GoodIn wsX1_isSame wsX0_words := goodIn_r _ [16, 17, 218, 219, 220, 221, 222, 223, 224, 225, 226, 227, 228, 229, 230, 231, 232, 233, 234, 235] (by decide +kernel) (by decide +kernel)
set_option maxRecDepth 20000 in
theorem gX1_isSame_X0_words : GoodIn wsX1_isSame (wsV RX1 75 RX0 yX0_words wsX0_words) := goodIn_app (goodIn_of _ (by decide +kernel)) ggX1_isSame_X0_words
set_option maxRecDepth 20000 in
theorem ggX1_isSame_X0_limit : GoodIn wsX1_isSame wsX0_limit := goodIn_r _ [21, 22, 218, 219, 220, 221, 222, 223, 224, 225, 226, 227, 228, 229, 230, 231, 232, 233, 234, 235] (by decide +kernel) (by decide +kernel)
set_option maxRecDepth 20000 in
theorem gX1_isSame_X0_limit : GoodIn wsX1_isSame (wsV RX1 79 RX0 yX0_limit wsX0_limit) := goodIn_app (goodIn_of _ (by decide +kernel)) ggX1_isSame_X0_limit
set_option maxRecDepth 20000 in
theorem ggX1_isSame_X0_leastCount : GoodIn wsX1_isSame wsX0_leastCount := goodIn_r _ [26, 27, 218, 219, 220, 221, 222, 223, 224, 225, 226, 227, 228, 229, 230, 231, 232, 233, 234, 235] (by decide +kernel) (by decide +kernel)
set_option maxRecDepth 20000 in
theorem gX1_isSame_X0_leastCount : GoodIn wsX1_isSame (wsV RX1 81 RX0 yX0_leastCount wsX0_leastCount) := goodIn_app (goodIn_of _ (by decide +kernel)) ggX1_isSame_X0_leastCount
set_option maxRecDepth 20000 in
theorem ggX1_isSame_X0_coins : GoodIn wsX1_isSame wsX0_coins := goodIn_r _ [31, 32, 218, 219, 220, 221, 222, 223, 224, 225, 226, 227, 228, 229, 230, 231, 232, 233, 234, 235] (by decide +kernel) (by decide +kernel)
set_option maxRecDepth 20000 in
theorem gX1_isSame_X0_coins : GoodIn wsX1_isSame (wsV RX1 84 RX0 yX0_coins wsX0_coins) := goodIn_app (goodIn_of _ (by decide +kernel)) ggX1_isSame_X0_coins
set_option maxRecDepth 20000 in
theorem ggX1_isSame_X0_length : GoodIn wsX1_isSame wsX0_length := goodIn_r _ [36, 37, 218, 219, 220, 221, 222, 223, 224, 225, 226, 227, 228, 229, 230, 231, 232, 233, 234, 235] (by decide +kernel) (by decide +kernel)
set_option maxRecDepth 20000 in
theorem gX1_isSame_X0_length : GoodIn wsX1_isSame (wsV RX1 86 RX0 yX0_length wsX0_length) := goodIn_app (goodIn_of _ (by decide +kernel)) ggX1_isSame_X0_length
set_option maxRecDepth 20000 in
theorem ggX1_isSame_X0_count : GoodIn wsX1_isSame wsX0_count := goodIn_r _ [41, 37, 42, 43, 44, 45, 46, 47, 15, 48, 49, 50, 51, 52, 22, 53, 54, 55, 56, 27, 57, 58, 59, 60, 218, 219, 220, 221, 222, 223, 224, 225, 226, 227, 228, 229, 230, 231, 232, 233, 234, 235] (by decide +kernel) (by decide +kernel)
set_option maxRecDepth 20000 in
theorem gX1_isSame_X0_count : GoodIn wsX1_isSame (wsV RX1 89 RX0 yX0_count wsX0_count) := goodIn_app (goodIn_of _ (by decide +kernel)) ggX1_isSame_X0_count
set_option maxRecDepth 20000 in
theorem ggX1_isSame_X1_count : GoodIn wsX1_isSame wsX1_count := goodIn_r _ [65, 1, 10, 66, 67, 68, 64, 69, 9, 70, 71, 72, 73, 3, 74, 75, 76, 77, 4, 207, 208, 209, 210, 211, 212, 213, 214, 215, 216, 217] (by decide +kernel) (by decide +kernel)
set_option maxRecDepth 20000 in
theorem gX1_isSame_X1_count : GoodIn wsX1_isSame (wsV RX1 92 RX1 yX1_count wsX1_count) := goodIn_app (goodIn_of _ (by decide +kernel)) ggX1_isSame_X1_count
set_option maxRecDepth 20000 in
theorem ggX1_isSame_X0_price : GoodIn wsX1_isSame wsX0_price := goodIn_r _ [81, 32, 82, 39, 40, 15, 41, 37, 42, 43, 44, 45, 46, 47, 48, 49, 50, 51, 52, 22, 53, 54, 55, 56, 27, 57, 58, 59, 60, 218, 219, 220, 221, 222, 223, 224, 225, 226, 227, 228, 229, 230, 231, 232, 233, 234, 235] (by decide +kernel) (by decide +kernel)
set_option maxRecDepth 20000 in
theorem gX1_isSame_X0_price : GoodIn wsX1_isSame (wsV RX1 93 RX0 yX0_price wsX0_price) := goodIn_app (goodIn_of _ (by decide +kernel)) ggX1_isSame_X0_price
set_option maxRecDepth 20000 in
theorem ggX1_isSame_X0_cheapestCount : GoodIn wsX1_isSame wsX0_cheapestCount := goodIn_r _ [86, 87, 88, 89, 90, 15, 91, 37, 92, 44, 93, 94, 95, 96, 97, 43, 17, 98, 99, 100, 101, 102, 103, 104, 105, 49, 50, 51, 52, 22, 106, 107, 108, 109, 110, 45, 46, 47, 48, 111, 112, 113, 114, 115, 116, 117, 59, 118, 53, 54, 55, 56, 27, 57, 58, 60, 218, 219, 220, 221, 222, 223, 224, 225, 226, 227, 228, 229, 230, 231, 232, 233, 234, 235] (by decide +kernel) (by decide +kernel)
set_option maxRecDepth 20000 in
theorem gX1_isSame_X0_cheapestCount : GoodIn wsX1_isSame (wsV RX1 96 RX0 yX0_cheapestCount wsX0_cheapestCount) := goodIn_app (goodIn_of _ (by decide +kernel)) ggX1_isSame_X0_cheapestCount
set_option maxRecDepth 20000 in
theorem ggX1_isSame_X1_cheapest : GoodIn wsX1_isSame wsX1_cheapest := goodIn_r _ [122, 1, 123, 124, 125, 64, 126, 127, 2, 9, 128, 117, 59, 118, 8, 129, 130, 131, 132, 133, 70, 71, 72, 73, 3, 74, 75, 76, 77, 4, 207, 208, 209, 210, 211, 212, 213, 214, 215, 216, 217] (by decide +kernel) (by decide +kernel)
set_option maxRecDepth 20000 in
theorem gX1_isSame_X1_cheapest : GoodIn wsX1_isSame (wsV RX1 71 RX1 yX1_cheapest wsX1_cheapest) := goodIn_app (goodIn_of _ (by decide +kernel)) ggX1_isSame_X1_cheapest
set_option maxRecDepth 20000 in
theorem ggX1_isSame_X0_sent : GoodIn wsX1_isSame wsX0_sent := goodIn_r _ [137, 138, 218, 219, 220, 221, 222, 223, 224, 225, 226, 227, 228, 229, 230, 231, 232, 233, 234, 235] (by decide +kernel) (by decide +kernel)
set_option maxRecDepth 20000 in
theorem gX1_isSame_X0_sent : GoodIn wsX1_isSame (wsV RX1 99 RX0 yX0_sent wsX0_sent) := goodIn_app (goodIn_of _ (by decide +kernel)) ggX1_isSame_X0_sent
set_option maxRecDepth 20000 in
theorem ggX1_isSame_X0_earned : GoodIn wsX1_isSame wsX0_earned := goodIn_r _ [142, 143, 218, 219, 220, 221, 222, 223, 224, 225, 226, 227, 228, 229, 230, 231, 232, 233, 234, 235] (by decide +kernel) (by decide +kernel)
set_option maxRecDepth 20000 in
theorem gX1_isSame_X0_earned : GoodIn wsX1_isSame (wsV RX1 104 RX0 yX0_earned wsX0_earned) := goodIn_app (goodIn_of _ (by decide +kernel)) ggX1_isSame_X0_earned
set_option maxRecDepth 20000 in
theorem ggX1_isSame_X0_saves : GoodIn wsX1_isSame wsX0_saves := goodIn_r _ [147, 32, 148, 79, 80, 15, 81, 82, 39, 40, 41, 37, 42, 43, 44, 45, 46, 47, 48, 49, 50, 51, 52, 22, 53, 54, 55, 56, 27, 57, 58, 59, 60, 149, 84, 85, 86, 87, 88, 89, 90, 91, 92, 93, 94, 95, 96, 97, 17, 98, 99, 100, 101, 102, 103, 104, 105, 106, 107, 108, 109, 110, 111, 112, 113, 114, 115, 116, 117, 118, 218, 219, 220, 221, 222, 223, 224, 225, 226, 227, 228, 229, 230, 231, 232, 233, 234, 235] (by decide +kernel) (by decide +kernel)
set_option maxRecDepth 20000 in
theorem gX1_isSame_X0_saves : GoodIn wsX1_isSame (wsV RX1 109 RX0 yX0_saves wsX0_saves) := goodIn_app (goodIn_of _ (by decide +kernel)) ggX1_isSame_X0_saves
set_option maxRecDepth 20000 in
theorem ggX1_isSame_X0_priceTo : GoodIn wsX1_isSame wsX0_priceTo := goodIn_ca (goodIn_r _ [153, 154, 155, 148, 79, 80, 15, 81, 32, 82, 39, 40, 41, 37, 42, 43, 44, 45, 46, 47, 48, 49, 50, 51, 52, 22, 53, 54, 55, 56, 27, 57, 58, 59, 60, 218, 219, 220, 221, 222, 223, 224, 225, 226, 227, 228, 229, 230, 231, 232, 233, 234, 235] (by decide +kernel) (by decide +kernel)) (goodIn_sub (fun _ h => List.mem_cons_of_mem _ (List.mem_append_right _ h)) (by decide +kernel))
set_option maxRecDepth 20000 in
theorem gX1_isSame_X0_priceTo : GoodIn wsX1_isSame (wsV RX1 112 RX0 yX0_priceTo wsX0_priceTo) := goodIn_app (goodIn_of _ (by decide +kernel)) ggX1_isSame_X0_priceTo
set_option maxRecDepth 20000 in
theorem ggX1_isSame_X1_may : GoodIn wsX1_isSame wsX1_may := goodIn_r _ [132, 133, 207, 208, 209, 210, 211, 212, 213, 214, 215, 216, 217] (by decide +kernel) (by decide +kernel)
set_option maxRecDepth 20000 in
theorem gX1_isSame_X1_may : GoodIn wsX1_isSame (wsV RX1 52 RX1 yX1_may wsX1_may) := goodIn_app (goodIn_of _ (by decide +kernel)) ggX1_isSame_X1_may
set_option maxRecDepth 20000 in
theorem ggX1_isSame_X0_mayStandFor : GoodIn wsX1_isSame wsX0_mayStandFor := goodIn_ca (goodIn_r _ [159, 102, 160, 161, 162, 15, 163, 154, 155, 17, 103, 104, 105, 218, 219, 220, 221, 222, 223, 224, 225, 226, 227, 228, 229, 230, 231, 232, 233, 234, 235] (by decide +kernel) (by decide +kernel)) (goodIn_sub (fun _ h => List.mem_cons_of_mem _ (List.mem_append_right _ h)) (by decide +kernel))
set_option maxRecDepth 20000 in
theorem gX1_isSame_X0_mayStandFor : GoodIn wsX1_isSame (wsV RX1 115 RX0 yX0_mayStandFor wsX0_mayStandFor) := goodIn_app (goodIn_of _ (by decide +kernel)) ggX1_isSame_X0_mayStandFor
set_option maxRecDepth 20000 in
theorem ggX1_isSame_X0_mayJoin : GoodIn wsX1_isSame wsX0_mayJoin := goodIn_ca (goodIn_r _ [167, 110, 160, 161, 162, 15, 163, 154, 155, 17, 103, 104, 105, 218, 219, 220, 221, 222, 223, 224, 225, 226, 227, 228, 229, 230, 231, 232, 233, 234, 235] (by decide +kernel) (by decide +kernel)) (goodIn_sub (fun _ h => List.mem_cons_of_mem _ (List.mem_append_right _ h)) (by decide +kernel))
set_option maxRecDepth 20000 in
theorem gX1_isSame_X0_mayJoin : GoodIn wsX1_isSame (wsV RX1 118 RX0 yX0_mayJoin wsX0_mayJoin) := goodIn_app (goodIn_of _ (by decide +kernel)) ggX1_isSame_X0_mayJoin
set_option maxRecDepth 20000 in
theorem ggX1_isSame_X0_lettersOf : GoodIn wsX1_isSame wsX0_lettersOf := goodIn_ca (goodIn_r _ [171, 44, 160, 161, 162, 15, 163, 154, 155, 17, 218, 219, 220, 221, 222, 223, 224, 225, 226, 227, 228, 229, 230, 231, 232, 233, 234, 235] (by decide +kernel) (by decide +kernel)) (goodIn_sub (fun _ h => List.mem_cons_of_mem _ (List.mem_append_right _ h)) (by decide +kernel))
set_option maxRecDepth 20000 in
theorem gX1_isSame_X0_lettersOf : GoodIn wsX1_isSame (wsV RX1 121 RX0 yX0_lettersOf wsX0_lettersOf) := goodIn_app (goodIn_of _ (by decide +kernel)) ggX1_isSame_X0_lettersOf
set_option maxRecDepth 20000 in
theorem ggX1_isSame_X0_countOf : GoodIn wsX1_isSame wsX0_countOf := goodIn_ca (goodIn_r _ [175, 44, 160, 161, 162, 15, 163, 154, 155, 17, 49, 50, 51, 52, 22, 218, 219, 220, 221, 222, 223, 224, 225, 226, 227, 228, 229, 230, 231, 232, 233, 234, 235] (by decide +kernel) (by decide +kernel)) (goodIn_sub (fun _ h => List.mem_cons_of_mem _ (List.mem_append_right _ h)) (by decide +kernel))
set_option maxRecDepth 20000 in
theorem gX1_isSame_X0_countOf : GoodIn wsX1_isSame (wsV RX1 124 RX0 yX0_countOf wsX0_countOf) := goodIn_app (goodIn_of _ (by decide +kernel)) ggX1_isSame_X0_countOf
set_option maxRecDepth 20000 in
theorem ggX1_isSame_X1_counts : GoodIn wsX1_isSame wsX1_counts := goodIn_r _ [73, 3, 207, 208, 209, 210, 211, 212, 213, 214, 215, 216, 217] (by decide +kernel) (by decide +kernel)
set_option maxRecDepth 20000 in
theorem gX1_isSame_X1_counts : GoodIn wsX1_isSame (wsV RX1 38 RX1 yX1_counts wsX1_counts) := goodIn_app (goodIn_of _ (by decide +kernel)) ggX1_isSame_X1_counts
set_option maxRecDepth 20000 in
theorem ggX1_isSame_X0_standInsOf : GoodIn wsX1_isSame wsX0_standInsOf := goodIn_ca (goodIn_r _ [179, 102, 160, 161, 162, 15, 163, 154, 155, 17, 180, 181, 182, 183, 184, 185, 186, 218, 219, 220, 221, 222, 223, 224, 225, 226, 227, 228, 229, 230, 231, 232, 233, 234, 235] (by decide +kernel) (by decide +kernel)) (goodIn_sub (fun _ h => List.mem_cons_of_mem _ (List.mem_append_right _ h)) (by decide +kernel))
set_option maxRecDepth 20000 in
theorem gX1_isSame_X0_standInsOf : GoodIn wsX1_isSame (wsV RX1 127 RX0 yX0_standInsOf wsX0_standInsOf) := goodIn_app (goodIn_of _ (by decide +kernel)) ggX1_isSame_X0_standInsOf
set_option maxRecDepth 20000 in
theorem ggX1_isSame_X0_wordAt : GoodIn wsX1_isSame wsX0_wordAt := goodIn_ca (goodIn_r _ [190, 43, 191, 192, 193, 15, 194, 154, 155, 37, 218, 219, 220, 221, 222, 223, 224, 225, 226, 227, 228, 229, 230, 231, 232, 233, 234, 235] (by decide +kernel) (by decide +kernel)) (goodIn_sub (fun _ h => List.mem_cons_of_mem _ (List.mem_append_right _ h)) (by decide +kernel))
set_option maxRecDepth 20000 in
theorem gX1_isSame_X0_wordAt : GoodIn wsX1_isSame (wsV RX1 130 RX0 yX0_wordAt wsX0_wordAt) := goodIn_app (goodIn_of _ (by decide +kernel)) ggX1_isSame_X0_wordAt
set_option maxRecDepth 20000 in
theorem ggX1_isSame_X0_isJoined : GoodIn wsX1_isSame wsX0_isJoined := goodIn_ca (goodIn_r _ [198, 42, 191, 192, 193, 15, 194, 154, 155, 37, 218, 219, 220, 221, 222, 223, 224, 225, 226, 227, 228, 229, 230, 231, 232, 233, 234, 235] (by decide +kernel) (by decide +kernel)) (goodIn_sub (fun _ h => List.mem_cons_of_mem _ (List.mem_append_right _ h)) (by decide +kernel))
set_option maxRecDepth 20000 in
theorem gX1_isSame_X0_isJoined : GoodIn wsX1_isSame (wsV RX1 133 RX0 yX0_isJoined wsX0_isJoined) := goodIn_app (goodIn_of _ (by decide +kernel)) ggX1_isSame_X0_isJoined
set_option maxRecDepth 20000 in
theorem ggX1_isSame_X0_wordings : GoodIn wsX1_isSame wsX0_wordings := goodIn_r _ [202, 37, 102, 43, 93, 116, 117, 59, 118, 180, 181, 182, 183, 184, 185, 186, 218, 219, 220, 221, 222, 223, 224, 225, 226, 227, 228, 229, 230, 231, 232, 233, 234, 235] (by decide +kernel) (by decide +kernel)
set_option maxRecDepth 20000 in
theorem gX1_isSame_X0_wordings : GoodIn wsX1_isSame (wsV RX1 139 RX0 yX0_wordings wsX0_wordings) := goodIn_app (goodIn_of _ (by decide +kernel)) ggX1_isSame_X0_wordings
set_option maxRecDepth 20000 in
theorem ggX1_isSame_X0_meanCost : GoodIn wsX1_isSame wsX0_meanCost := goodIn_r _ [206, 138, 143, 218, 219, 220, 221, 222, 223, 224, 225, 226, 227, 228, 229, 230, 231, 232, 233, 234, 235] (by decide +kernel) (by decide +kernel)
set_option maxRecDepth 20000 in
theorem gX1_isSame_X0_meanCost : GoodIn wsX1_isSame (wsV RX1 142 RX0 yX0_meanCost wsX0_meanCost) := goodIn_app (goodIn_of _ (by decide +kernel)) ggX1_isSame_X0_meanCost
theorem dX1_isSame_0 : decode cX1_isSame 0 = .ok (.aload_n 0, 1) := by decide +kernel
theorem dX1_isSame_1 : decode cX1_isSame 1 = .ok (.getfield 31, 3) := by decide +kernel
theorem dX1_isSame_4 : decode cX1_isSame 4 = .ok (.arraylength, 1) := by decide +kernel
theorem dX1_isSame_5 : decode cX1_isSame 5 = .ok (.istore_n 2, 1) := by decide +kernel
theorem dX1_isSame_6 : decode cX1_isSame 6 = .ok (.aload_n 1, 1) := by decide +kernel
theorem dX1_isSame_7 : decode cX1_isSame 7 = .ok (.invokevirtual 75, 3) := by decide +kernel
theorem dX1_isSame_10 : decode cX1_isSame 10 = .ok (.aload_n 0, 1) := by decide +kernel
theorem dX1_isSame_11 : decode cX1_isSame 11 = .ok (.getfield 49, 3) := by decide +kernel
theorem dX1_isSame_14 : decode cX1_isSame 14 = .ok (.if_icmp .ne 125, 3) := by decide +kernel
theorem dX1_isSame_17 : decode cX1_isSame 17 = .ok (.aload_n 1, 1) := by decide +kernel
theorem dX1_isSame_18 : decode cX1_isSame 18 = .ok (.invokevirtual 79, 3) := by decide +kernel
theorem dX1_isSame_21 : decode cX1_isSame 21 = .ok (.aload_n 0, 1) := by decide +kernel
theorem dX1_isSame_22 : decode cX1_isSame 22 = .ok (.getfield 7, 3) := by decide +kernel
theorem dX1_isSame_25 : decode cX1_isSame 25 = .ok (.if_icmp .ne 114, 3) := by decide +kernel
theorem dX1_isSame_28 : decode cX1_isSame 28 = .ok (.aload_n 1, 1) := by decide +kernel
theorem dX1_isSame_29 : decode cX1_isSame 29 = .ok (.invokevirtual 81, 3) := by decide +kernel
theorem dX1_isSame_32 : decode cX1_isSame 32 = .ok (.aload_n 0, 1) := by decide +kernel
theorem dX1_isSame_33 : decode cX1_isSame 33 = .ok (.getfield 13, 3) := by decide +kernel
theorem dX1_isSame_36 : decode cX1_isSame 36 = .ok (.if_icmp .ne 103, 3) := by decide +kernel
theorem dX1_isSame_39 : decode cX1_isSame 39 = .ok (.aload_n 1, 1) := by decide +kernel
theorem dX1_isSame_40 : decode cX1_isSame 40 = .ok (.invokevirtual 84, 3) := by decide +kernel
theorem dX1_isSame_43 : decode cX1_isSame 43 = .ok (.aload_n 0, 1) := by decide +kernel
theorem dX1_isSame_44 : decode cX1_isSame 44 = .ok (.getfield 16, 3) := by decide +kernel
theorem dX1_isSame_47 : decode cX1_isSame 47 = .ok (.if_icmp .ne 92, 3) := by decide +kernel
theorem dX1_isSame_50 : decode cX1_isSame 50 = .ok (.aload_n 1, 1) := by decide +kernel
theorem dX1_isSame_51 : decode cX1_isSame 51 = .ok (.invokevirtual 86, 3) := by decide +kernel
theorem dX1_isSame_54 : decode cX1_isSame 54 = .ok (.iload_n 2, 1) := by decide +kernel
theorem dX1_isSame_55 : decode cX1_isSame 55 = .ok (.if_icmp .ne 84, 3) := by decide +kernel
theorem dX1_isSame_58 : decode cX1_isSame 58 = .ok (.aload_n 1, 1) := by decide +kernel
theorem dX1_isSame_59 : decode cX1_isSame 59 = .ok (.invokevirtual 89, 3) := by decide +kernel
theorem dX1_isSame_62 : decode cX1_isSame 62 = .ok (.aload_n 0, 1) := by decide +kernel
theorem dX1_isSame_63 : decode cX1_isSame 63 = .ok (.invokevirtual 92, 3) := by decide +kernel
theorem dX1_isSame_66 : decode cX1_isSame 66 = .ok (.if_icmp .ne 73, 3) := by decide +kernel
theorem dX1_isSame_69 : decode cX1_isSame 69 = .ok (.aload_n 1, 1) := by decide +kernel
theorem dX1_isSame_70 : decode cX1_isSame 70 = .ok (.invokevirtual 93, 3) := by decide +kernel
theorem dX1_isSame_73 : decode cX1_isSame 73 = .ok (.aload_n 0, 1) := by decide +kernel
theorem dX1_isSame_74 : decode cX1_isSame 74 = .ok (.invokevirtual 92, 3) := by decide +kernel
theorem dX1_isSame_77 : decode cX1_isSame 77 = .ok (.aload_n 0, 1) := by decide +kernel
theorem dX1_isSame_78 : decode cX1_isSame 78 = .ok (.getfield 16, 3) := by decide +kernel
theorem dX1_isSame_81 : decode cX1_isSame 81 = .ok (.imul, 1) := by decide +kernel
theorem dX1_isSame_82 : decode cX1_isSame 82 = .ok (.if_icmp .ne 57, 3) := by decide +kernel
theorem dX1_isSame_85 : decode cX1_isSame 85 = .ok (.aload_n 1, 1) := by decide +kernel
theorem dX1_isSame_86 : decode cX1_isSame 86 = .ok (.invokevirtual 96, 3) := by decide +kernel
theorem dX1_isSame_89 : decode cX1_isSame 89 = .ok (.aload_n 0, 1) := by decide +kernel
theorem dX1_isSame_90 : decode cX1_isSame 90 = .ok (.invokevirtual 71, 3) := by decide +kernel
theorem dX1_isSame_93 : decode cX1_isSame 93 = .ok (.if_icmp .ne 46, 3) := by decide +kernel
theorem dX1_isSame_96 : decode cX1_isSame 96 = .ok (.aload_n 1, 1) := by decide +kernel
theorem dX1_isSame_97 : decode cX1_isSame 97 = .ok (.invokevirtual 99, 3) := by decide +kernel
theorem dX1_isSame_100 : decode cX1_isSame 100 = .ok (.aload_n 0, 1) := by decide +kernel
theorem dX1_isSame_101 : decode cX1_isSame 101 = .ok (.getfield 102, 3) := by decide +kernel
theorem dX1_isSame_104 : decode cX1_isSame 104 = .ok (.if_icmp .ne 35, 3) := by decide +kernel
theorem dX1_isSame_107 : decode cX1_isSame 107 = .ok (.aload_n 1, 1) := by decide +kernel
theorem dX1_isSame_108 : decode cX1_isSame 108 = .ok (.invokevirtual 104, 3) := by decide +kernel
theorem dX1_isSame_111 : decode cX1_isSame 111 = .ok (.aload_n 0, 1) := by decide +kernel
theorem dX1_isSame_112 : decode cX1_isSame 112 = .ok (.getfield 107, 3) := by decide +kernel
theorem dX1_isSame_115 : decode cX1_isSame 115 = .ok (.if_icmp .ne 24, 3) := by decide +kernel
theorem dX1_isSame_118 : decode cX1_isSame 118 = .ok (.aload_n 1, 1) := by decide +kernel
theorem dX1_isSame_119 : decode cX1_isSame 119 = .ok (.invokevirtual 109, 3) := by decide +kernel
theorem dX1_isSame_122 : decode cX1_isSame 122 = .ok (.aload_n 0, 1) := by decide +kernel
theorem dX1_isSame_123 : decode cX1_isSame 123 = .ok (.getfield 16, 3) := by decide +kernel
theorem dX1_isSame_126 : decode cX1_isSame 126 = .ok (.aload_n 0, 1) := by decide +kernel
theorem dX1_isSame_127 : decode cX1_isSame 127 = .ok (.invokevirtual 92, 3) := by decide +kernel
theorem dX1_isSame_130 : decode cX1_isSame 130 = .ok (.aload_n 0, 1) := by decide +kernel
theorem dX1_isSame_131 : decode cX1_isSame 131 = .ok (.invokevirtual 71, 3) := by decide +kernel
theorem dX1_isSame_134 : decode cX1_isSame 134 = .ok (.isub, 1) := by decide +kernel
theorem dX1_isSame_135 : decode cX1_isSame 135 = .ok (.imul, 1) := by decide +kernel
theorem dX1_isSame_136 : decode cX1_isSame 136 = .ok (.if_icmp .eq 5, 3) := by decide +kernel
theorem dX1_isSame_139 : decode cX1_isSame 139 = .ok (.iconst 0, 1) := by decide +kernel
theorem dX1_isSame_140 : decode cX1_isSame 140 = .ok (.ireturn, 1) := by decide +kernel
theorem dX1_isSame_141 : decode cX1_isSame 141 = .ok (.iconst 0, 1) := by decide +kernel
theorem dX1_isSame_142 : decode cX1_isSame 142 = .ok (.istore_n 3, 1) := by decide +kernel
theorem dX1_isSame_143 : decode cX1_isSame 143 = .ok (.iload_n 3, 1) := by decide +kernel
theorem dX1_isSame_144 : decode cX1_isSame 144 = .ok (.iconst 4, 1) := by decide +kernel
theorem dX1_isSame_145 : decode cX1_isSame 145 = .ok (.if_icmp .ge 34, 3) := by decide +kernel
theorem dX1_isSame_148 : decode cX1_isSame 148 = .ok (.aload_n 1, 1) := by decide +kernel
theorem dX1_isSame_149 : decode cX1_isSame 149 = .ok (.iload_n 3, 1) := by decide +kernel
theorem dX1_isSame_150 : decode cX1_isSame 150 = .ok (.invokevirtual 112, 3) := by decide +kernel
theorem dX1_isSame_153 : decode cX1_isSame 153 = .ok (.aload_n 0, 1) := by decide +kernel
theorem dX1_isSame_154 : decode cX1_isSame 154 = .ok (.invokevirtual 92, 3) := by decide +kernel
theorem dX1_isSame_157 : decode cX1_isSame 157 = .ok (.aload_n 0, 1) := by decide +kernel
theorem dX1_isSame_158 : decode cX1_isSame 158 = .ok (.getfield 16, 3) := by decide +kernel
theorem dX1_isSame_161 : decode cX1_isSame 161 = .ok (.imul, 1) := by decide +kernel
theorem dX1_isSame_162 : decode cX1_isSame 162 = .ok (.iload_n 3, 1) := by decide +kernel
theorem dX1_isSame_163 : decode cX1_isSame 163 = .ok (.iconst 2, 1) := by decide +kernel
theorem dX1_isSame_164 : decode cX1_isSame 164 = .ok (.iadd, 1) := by decide +kernel
theorem dX1_isSame_165 : decode cX1_isSame 165 = .ok (.imul, 1) := by decide +kernel
theorem dX1_isSame_166 : decode cX1_isSame 166 = .ok (.iconst 2, 1) := by decide +kernel
theorem dX1_isSame_167 : decode cX1_isSame 167 = .ok (.idiv, 1) := by decide +kernel
theorem dX1_isSame_168 : decode cX1_isSame 168 = .ok (.if_icmp .eq 5, 3) := by decide +kernel
theorem dX1_isSame_171 : decode cX1_isSame 171 = .ok (.iconst 0, 1) := by decide +kernel
theorem dX1_isSame_172 : decode cX1_isSame 172 = .ok (.ireturn, 1) := by decide +kernel
theorem dX1_isSame_173 : decode cX1_isSame 173 = .ok (.iinc 3 1, 3) := by decide +kernel
theorem dX1_isSame_176 : decode cX1_isSame 176 = .ok (.goto (-33), 3) := by decide +kernel
theorem dX1_isSame_179 : decode cX1_isSame 179 = .ok (.iconst 0, 1) := by decide +kernel
theorem dX1_isSame_180 : decode cX1_isSame 180 = .ok (.istore_n 3, 1) := by decide +kernel
theorem dX1_isSame_181 : decode cX1_isSame 181 = .ok (.iload_n 3, 1) := by decide +kernel
theorem dX1_isSame_182 : decode cX1_isSame 182 = .ok (.aload_n 0, 1) := by decide +kernel
theorem dX1_isSame_183 : decode cX1_isSame 183 = .ok (.getfield 49, 3) := by decide +kernel
theorem dX1_isSame_186 : decode cX1_isSame 186 = .ok (.if_icmp .ge 132, 3) := by decide +kernel
theorem dX1_isSame_189 : decode cX1_isSame 189 = .ok (.iconst 0, 1) := by decide +kernel
theorem dX1_isSame_190 : decode cX1_isSame 190 = .ok (.istore 4, 2) := by decide +kernel
theorem dX1_isSame_192 : decode cX1_isSame 192 = .ok (.iconst 0, 1) := by decide +kernel
theorem dX1_isSame_193 : decode cX1_isSame 193 = .ok (.istore 5, 2) := by decide +kernel
theorem dX1_isSame_195 : decode cX1_isSame 195 = .ok (.iload 5, 2) := by decide +kernel
theorem dX1_isSame_197 : decode cX1_isSame 197 = .ok (.aload_n 0, 1) := by decide +kernel
theorem dX1_isSame_198 : decode cX1_isSame 198 = .ok (.getfield 49, 3) := by decide +kernel
theorem dX1_isSame_201 : decode cX1_isSame 201 = .ok (.if_icmp .ge 67, 3) := by decide +kernel
theorem dX1_isSame_204 : decode cX1_isSame 204 = .ok (.iload 4, 2) := by decide +kernel
theorem dX1_isSame_206 : decode cX1_isSame 206 = .ok (.aload_n 0, 1) := by decide +kernel
theorem dX1_isSame_207 : decode cX1_isSame 207 = .ok (.iload_n 3, 1) := by decide +kernel
theorem dX1_isSame_208 : decode cX1_isSame 208 = .ok (.iload 5, 2) := by decide +kernel
theorem dX1_isSame_210 : decode cX1_isSame 210 = .ok (.invokevirtual 52, 3) := by decide +kernel
theorem dX1_isSame_213 : decode cX1_isSame 213 = .ok (.ifCond .eq 7, 3) := by decide +kernel
theorem dX1_isSame_216 : decode cX1_isSame 216 = .ok (.iconst 1, 1) := by decide +kernel
theorem dX1_isSame_217 : decode cX1_isSame 217 = .ok (.goto 4, 3) := by decide +kernel
theorem dX1_isSame_220 : decode cX1_isSame 220 = .ok (.iconst 0, 1) := by decide +kernel
theorem dX1_isSame_221 : decode cX1_isSame 221 = .ok (.iadd, 1) := by decide +kernel
theorem dX1_isSame_222 : decode cX1_isSame 222 = .ok (.istore 4, 2) := by decide +kernel
theorem dX1_isSame_224 : decode cX1_isSame 224 = .ok (.aload_n 1, 1) := by decide +kernel
theorem dX1_isSame_225 : decode cX1_isSame 225 = .ok (.iload_n 3, 1) := by decide +kernel
theorem dX1_isSame_226 : decode cX1_isSame 226 = .ok (.iload 5, 2) := by decide +kernel
theorem dX1_isSame_228 : decode cX1_isSame 228 = .ok (.invokevirtual 115, 3) := by decide +kernel
theorem dX1_isSame_231 : decode cX1_isSame 231 = .ok (.aload_n 0, 1) := by decide +kernel
theorem dX1_isSame_232 : decode cX1_isSame 232 = .ok (.iload_n 3, 1) := by decide +kernel
theorem dX1_isSame_233 : decode cX1_isSame 233 = .ok (.iload 5, 2) := by decide +kernel
theorem dX1_isSame_235 : decode cX1_isSame 235 = .ok (.invokevirtual 52, 3) := by decide +kernel
theorem dX1_isSame_238 : decode cX1_isSame 238 = .ok (.if_icmp .ne 22, 3) := by decide +kernel
theorem dX1_isSame_241 : decode cX1_isSame 241 = .ok (.aload_n 1, 1) := by decide +kernel
theorem dX1_isSame_242 : decode cX1_isSame 242 = .ok (.iload_n 3, 1) := by decide +kernel
theorem dX1_isSame_243 : decode cX1_isSame 243 = .ok (.iload 5, 2) := by decide +kernel
theorem dX1_isSame_245 : decode cX1_isSame 245 = .ok (.invokevirtual 118, 3) := by decide +kernel
theorem dX1_isSame_248 : decode cX1_isSame 248 = .ok (.aload_n 0, 1) := by decide +kernel
theorem dX1_isSame_249 : decode cX1_isSame 249 = .ok (.getfield 28, 3) := by decide +kernel
theorem dX1_isSame_252 : decode cX1_isSame 252 = .ok (.iload_n 3, 1) := by decide +kernel
theorem dX1_isSame_253 : decode cX1_isSame 253 = .ok (.aaload, 1) := by decide +kernel
theorem dX1_isSame_254 : decode cX1_isSame 254 = .ok (.iload 5, 2) := by decide +kernel
theorem dX1_isSame_256 : decode cX1_isSame 256 = .ok (.baload, 1) := by decide +kernel
theorem dX1_isSame_257 : decode cX1_isSame 257 = .ok (.if_icmp .eq 5, 3) := by decide +kernel
theorem dX1_isSame_260 : decode cX1_isSame 260 = .ok (.iconst 0, 1) := by decide +kernel
theorem dX1_isSame_261 : decode cX1_isSame 261 = .ok (.ireturn, 1) := by decide +kernel
theorem dX1_isSame_262 : decode cX1_isSame 262 = .ok (.iinc 5 1, 3) := by decide +kernel
theorem dX1_isSame_265 : decode cX1_isSame 265 = .ok (.goto (-70), 3) := by decide +kernel
theorem dX1_isSame_268 : decode cX1_isSame 268 = .ok (.aload_n 1, 1) := by decide +kernel
theorem dX1_isSame_269 : decode cX1_isSame 269 = .ok (.iload_n 3, 1) := by decide +kernel
theorem dX1_isSame_270 : decode cX1_isSame 270 = .ok (.invokevirtual 121, 3) := by decide +kernel
theorem dX1_isSame_273 : decode cX1_isSame 273 = .ok (.aload_n 0, 1) := by decide +kernel
theorem dX1_isSame_274 : decode cX1_isSame 274 = .ok (.getfield 19, 3) := by decide +kernel
theorem dX1_isSame_277 : decode cX1_isSame 277 = .ok (.iload_n 3, 1) := by decide +kernel
theorem dX1_isSame_278 : decode cX1_isSame 278 = .ok (.iaload, 1) := by decide +kernel
theorem dX1_isSame_279 : decode cX1_isSame 279 = .ok (.if_icmp .ne 31, 3) := by decide +kernel
theorem dX1_isSame_282 : decode cX1_isSame 282 = .ok (.aload_n 1, 1) := by decide +kernel
theorem dX1_isSame_283 : decode cX1_isSame 283 = .ok (.iload_n 3, 1) := by decide +kernel
theorem dX1_isSame_284 : decode cX1_isSame 284 = .ok (.invokevirtual 124, 3) := by decide +kernel
theorem dX1_isSame_287 : decode cX1_isSame 287 = .ok (.aload_n 0, 1) := by decide +kernel
theorem dX1_isSame_288 : decode cX1_isSame 288 = .ok (.aload_n 0, 1) := by decide +kernel
theorem dX1_isSame_289 : decode cX1_isSame 289 = .ok (.getfield 19, 3) := by decide +kernel
theorem dX1_isSame_292 : decode cX1_isSame 292 = .ok (.iload_n 3, 1) := by decide +kernel
theorem dX1_isSame_293 : decode cX1_isSame 293 = .ok (.iaload, 1) := by decide +kernel
theorem dX1_isSame_294 : decode cX1_isSame 294 = .ok (.invokevirtual 38, 3) := by decide +kernel
theorem dX1_isSame_297 : decode cX1_isSame 297 = .ok (.if_icmp .ne 13, 3) := by decide +kernel
theorem dX1_isSame_300 : decode cX1_isSame 300 = .ok (.aload_n 1, 1) := by decide +kernel
theorem dX1_isSame_301 : decode cX1_isSame 301 = .ok (.iload_n 3, 1) := by decide +kernel
theorem dX1_isSame_302 : decode cX1_isSame 302 = .ok (.invokevirtual 127, 3) := by decide +kernel
theorem dX1_isSame_305 : decode cX1_isSame 305 = .ok (.iload 4, 2) := by decide +kernel
theorem dX1_isSame_307 : decode cX1_isSame 307 = .ok (.if_icmp .eq 5, 3) := by decide +kernel
theorem dX1_isSame_310 : decode cX1_isSame 310 = .ok (.iconst 0, 1) := by decide +kernel
theorem dX1_isSame_311 : decode cX1_isSame 311 = .ok (.ireturn, 1) := by decide +kernel
theorem dX1_isSame_312 : decode cX1_isSame 312 = .ok (.iinc 3 1, 3) := by decide +kernel
theorem dX1_isSame_315 : decode cX1_isSame 315 = .ok (.goto (-134), 3) := by decide +kernel
theorem dX1_isSame_318 : decode cX1_isSame 318 = .ok (.lconst 1, 1) := by decide +kernel
theorem dX1_isSame_319 : decode cX1_isSame 319 = .ok (.lstore_n 3, 1) := by decide +kernel
theorem dX1_isSame_320 : decode cX1_isSame 320 = .ok (.iconst 0, 1) := by decide +kernel
theorem dX1_isSame_321 : decode cX1_isSame 321 = .ok (.istore 5, 2) := by decide +kernel
theorem dX1_isSame_323 : decode cX1_isSame 323 = .ok (.iload 5, 2) := by decide +kernel
theorem dX1_isSame_325 : decode cX1_isSame 325 = .ok (.iload_n 2, 1) := by decide +kernel
theorem dX1_isSame_326 : decode cX1_isSame 326 = .ok (.if_icmp .ge 70, 3) := by decide +kernel
theorem dX1_isSame_329 : decode cX1_isSame 329 = .ok (.aload_n 1, 1) := by decide +kernel
theorem dX1_isSame_330 : decode cX1_isSame 330 = .ok (.iload 5, 2) := by decide +kernel
theorem dX1_isSame_332 : decode cX1_isSame 332 = .ok (.invokevirtual 130, 3) := by decide +kernel
theorem dX1_isSame_335 : decode cX1_isSame 335 = .ok (.aload_n 0, 1) := by decide +kernel
theorem dX1_isSame_336 : decode cX1_isSame 336 = .ok (.getfield 31, 3) := by decide +kernel
theorem dX1_isSame_339 : decode cX1_isSame 339 = .ok (.iload 5, 2) := by decide +kernel
theorem dX1_isSame_341 : decode cX1_isSame 341 = .ok (.iaload, 1) := by decide +kernel
theorem dX1_isSame_342 : decode cX1_isSame 342 = .ok (.if_icmp .ne 19, 3) := by decide +kernel
theorem dX1_isSame_345 : decode cX1_isSame 345 = .ok (.aload_n 1, 1) := by decide +kernel
theorem dX1_isSame_346 : decode cX1_isSame 346 = .ok (.iload 5, 2) := by decide +kernel
theorem dX1_isSame_348 : decode cX1_isSame 348 = .ok (.invokevirtual 133, 3) := by decide +kernel
theorem dX1_isSame_351 : decode cX1_isSame 351 = .ok (.aload_n 0, 1) := by decide +kernel
theorem dX1_isSame_352 : decode cX1_isSame 352 = .ok (.getfield 34, 3) := by decide +kernel
theorem dX1_isSame_355 : decode cX1_isSame 355 = .ok (.iload 5, 2) := by decide +kernel
theorem dX1_isSame_357 : decode cX1_isSame 357 = .ok (.baload, 1) := by decide +kernel
theorem dX1_isSame_358 : decode cX1_isSame 358 = .ok (.if_icmp .eq 5, 3) := by decide +kernel
theorem dX1_isSame_361 : decode cX1_isSame 361 = .ok (.iconst 0, 1) := by decide +kernel
theorem dX1_isSame_362 : decode cX1_isSame 362 = .ok (.ireturn, 1) := by decide +kernel
theorem dX1_isSame_363 : decode cX1_isSame 363 = .ok (.lload_n 3, 1) := by decide +kernel
theorem dX1_isSame_364 : decode cX1_isSame 364 = .ok (.aload_n 1, 1) := by decide +kernel
theorem dX1_isSame_365 : decode cX1_isSame 365 = .ok (.aload_n 0, 1) := by decide +kernel
theorem dX1_isSame_366 : decode cX1_isSame 366 = .ok (.getfield 31, 3) := by decide +kernel
theorem dX1_isSame_369 : decode cX1_isSame 369 = .ok (.iload 5, 2) := by decide +kernel
theorem dX1_isSame_371 : decode cX1_isSame 371 = .ok (.iaload, 1) := by decide +kernel
theorem dX1_isSame_372 : decode cX1_isSame 372 = .ok (.invokevirtual 127, 3) := by decide +kernel
theorem dX1_isSame_375 : decode cX1_isSame 375 = .ok (.i2l, 1) := by decide +kernel
theorem dX1_isSame_376 : decode cX1_isSame 376 = .ok (.lmul, 1) := by decide +kernel
theorem dX1_isSame_377 : decode cX1_isSame 377 = .ok (.lstore_n 3, 1) := by decide +kernel
theorem dX1_isSame_378 : decode cX1_isSame 378 = .ok (.lload_n 3, 1) := by decide +kernel
theorem dX1_isSame_379 : decode cX1_isSame 379 = .ok (.ldc2_w 137, 3) := by decide +kernel
theorem dX1_isSame_382 : decode cX1_isSame 382 = .ok (.lcmp, 1) := by decide +kernel
theorem dX1_isSame_383 : decode cX1_isSame 383 = .ok (.ifCond .le 7, 3) := by decide +kernel
theorem dX1_isSame_386 : decode cX1_isSame 386 = .ok (.ldc2_w 137, 3) := by decide +kernel
theorem dX1_isSame_389 : decode cX1_isSame 389 = .ok (.lstore_n 3, 1) := by decide +kernel
theorem dX1_isSame_390 : decode cX1_isSame 390 = .ok (.iinc 5 1, 3) := by decide +kernel
theorem dX1_isSame_393 : decode cX1_isSame 393 = .ok (.goto (-70), 3) := by decide +kernel
theorem dX1_isSame_396 : decode cX1_isSame 396 = .ok (.aload_n 1, 1) := by decide +kernel
theorem dX1_isSame_397 : decode cX1_isSame 397 = .ok (.invokevirtual 139, 3) := by decide +kernel
theorem dX1_isSame_400 : decode cX1_isSame 400 = .ok (.i2l, 1) := by decide +kernel
theorem dX1_isSame_401 : decode cX1_isSame 401 = .ok (.lload_n 3, 1) := by decide +kernel
theorem dX1_isSame_402 : decode cX1_isSame 402 = .ok (.lcmp, 1) := by decide +kernel
theorem dX1_isSame_403 : decode cX1_isSame 403 = .ok (.ifCond .ne 37, 3) := by decide +kernel
theorem dX1_isSame_406 : decode cX1_isSame 406 = .ok (.aload_n 1, 1) := by decide +kernel
theorem dX1_isSame_407 : decode cX1_isSame 407 = .ok (.invokevirtual 142, 3) := by decide +kernel
theorem dX1_isSame_410 : decode cX1_isSame 410 = .ok (.aload_n 0, 1) := by decide +kernel
theorem dX1_isSame_411 : decode cX1_isSame 411 = .ok (.getfield 102, 3) := by decide +kernel
theorem dX1_isSame_414 : decode cX1_isSame 414 = .ok (.ifCond .ne 7, 3) := by decide +kernel
theorem dX1_isSame_417 : decode cX1_isSame 417 = .ok (.dconst 0, 1) := by decide +kernel
theorem dX1_isSame_418 : decode cX1_isSame 418 = .ok (.goto 14, 3) := by decide +kernel
theorem dX1_isSame_421 : decode cX1_isSame 421 = .ok (.aload_n 0, 1) := by decide +kernel
theorem dX1_isSame_422 : decode cX1_isSame 422 = .ok (.getfield 107, 3) := by decide +kernel
theorem dX1_isSame_425 : decode cX1_isSame 425 = .ok (.i2d, 1) := by decide +kernel
theorem dX1_isSame_426 : decode cX1_isSame 426 = .ok (.aload_n 0, 1) := by decide +kernel
theorem dX1_isSame_427 : decode cX1_isSame 427 = .ok (.getfield 102, 3) := by decide +kernel
theorem dX1_isSame_430 : decode cX1_isSame 430 = .ok (.i2d, 1) := by decide +kernel
theorem dX1_isSame_431 : decode cX1_isSame 431 = .ok (.ddiv, 1) := by decide +kernel
theorem dX1_isSame_432 : decode cX1_isSame 432 = .ok (.dcmp .l, 1) := by decide +kernel
theorem dX1_isSame_433 : decode cX1_isSame 433 = .ok (.ifCond .ne 7, 3) := by decide +kernel
theorem dX1_isSame_436 : decode cX1_isSame 436 = .ok (.iconst 1, 1) := by decide +kernel
theorem dX1_isSame_437 : decode cX1_isSame 437 = .ok (.goto 4, 3) := by decide +kernel
theorem dX1_isSame_440 : decode cX1_isSame 440 = .ok (.iconst 0, 1) := by decide +kernel
theorem dX1_isSame_441 : decode cX1_isSame 441 = .ok (.ireturn, 1) := by decide +kernel
