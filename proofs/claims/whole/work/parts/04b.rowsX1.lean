theorem dX1_init_0 : decode cX1_init 0 = .ok (.aload_n 0, 1) := by decide +kernel
theorem dX1_init_1 : decode cX1_init 1 = .ok (.invokespecial 1, 3) := by decide +kernel
theorem dX1_init_4 : decode cX1_init 4 = .ok (.aload_n 0, 1) := by decide +kernel
theorem dX1_init_5 : decode cX1_init 5 = .ok (.bipush 10, 2) := by decide +kernel
theorem dX1_init_7 : decode cX1_init 7 = .ok (.putfield 7, 3) := by decide +kernel
theorem dX1_init_10 : decode cX1_init 10 = .ok (.aload_n 0, 1) := by decide +kernel
theorem dX1_init_11 : decode cX1_init 11 = .ok (.iconst 5, 1) := by decide +kernel
theorem dX1_init_12 : decode cX1_init 12 = .ok (.putfield 13, 3) := by decide +kernel
theorem dX1_init_15 : decode cX1_init 15 = .ok (.aload_n 0, 1) := by decide +kernel
theorem dX1_init_16 : decode cX1_init 16 = .ok (.iconst 2, 1) := by decide +kernel
theorem dX1_init_17 : decode cX1_init 17 = .ok (.putfield 16, 3) := by decide +kernel
theorem dX1_init_20 : decode cX1_init 20 = .ok (.aload_n 0, 1) := by decide +kernel
theorem dX1_init_21 : decode cX1_init 21 = .ok (.bipush 12, 2) := by decide +kernel
theorem dX1_init_23 : decode cX1_init 23 = .ok (.newarray .int, 2) := by decide +kernel
theorem dX1_init_25 : decode cX1_init 25 = .ok (.putfield 19, 3) := by decide +kernel
theorem dX1_init_28 : decode cX1_init 28 = .ok (.aload_n 0, 1) := by decide +kernel
theorem dX1_init_29 : decode cX1_init 29 = .ok (.bipush 12, 2) := by decide +kernel
theorem dX1_init_31 : decode cX1_init 31 = .ok (.newarray .int, 2) := by decide +kernel
theorem dX1_init_33 : decode cX1_init 33 = .ok (.putfield 23, 3) := by decide +kernel
theorem dX1_init_36 : decode cX1_init 36 = .ok (.aload_n 0, 1) := by decide +kernel
theorem dX1_init_37 : decode cX1_init 37 = .ok (.bipush 12, 2) := by decide +kernel
theorem dX1_init_39 : decode cX1_init 39 = .ok (.newarray .int, 2) := by decide +kernel
theorem dX1_init_41 : decode cX1_init 41 = .ok (.putfield 26, 3) := by decide +kernel
theorem dX1_init_44 : decode cX1_init 44 = .ok (.aload_n 0, 1) := by decide +kernel
theorem dX1_init_45 : decode cX1_init 45 = .ok (.bipush 16, 2) := by decide +kernel
theorem dX1_init_47 : decode cX1_init 47 = .ok (.newarray .int, 2) := by decide +kernel
theorem dX1_init_49 : decode cX1_init 49 = .ok (.putfield 29, 3) := by decide +kernel
theorem dX1_init_52 : decode cX1_init 52 = .ok (.aload_n 0, 1) := by decide +kernel
theorem dX1_init_53 : decode cX1_init 53 = .ok (.bipush 16, 2) := by decide +kernel
theorem dX1_init_55 : decode cX1_init 55 = .ok (.newarray .boolean, 2) := by decide +kernel
theorem dX1_init_57 : decode cX1_init 57 = .ok (.putfield 32, 3) := by decide +kernel
theorem dX1_init_60 : decode cX1_init 60 = .ok (.aload_n 0, 1) := by decide +kernel
theorem dX1_init_61 : decode cX1_init 61 = .ok (.bipush 18, 2) := by decide +kernel
theorem dX1_init_63 : decode cX1_init 63 = .ok (.newarray .int, 2) := by decide +kernel
theorem dX1_init_65 : decode cX1_init 65 = .ok (.putfield 36, 3) := by decide +kernel
theorem dX1_init_68 : decode cX1_init 68 = .ok (.aload_n 0, 1) := by decide +kernel
theorem dX1_init_69 : decode cX1_init 69 = .ok (.bipush 16, 2) := by decide +kernel
theorem dX1_init_71 : decode cX1_init 71 = .ok (.newarray .int, 2) := by decide +kernel
theorem dX1_init_73 : decode cX1_init 73 = .ok (.putfield 39, 3) := by decide +kernel
theorem dX1_init_76 : decode cX1_init 76 = .ok (.aload_n 0, 1) := by decide +kernel
theorem dX1_init_77 : decode cX1_init 77 = .ok (.bipush 16, 2) := by decide +kernel
theorem dX1_init_79 : decode cX1_init 79 = .ok (.newarray .boolean, 2) := by decide +kernel
theorem dX1_init_81 : decode cX1_init 81 = .ok (.putfield 42, 3) := by decide +kernel
theorem dX1_init_84 : decode cX1_init 84 = .ok (.return_, 1) := by decide +kernel
theorem dX1_thrown_0 : decode cX1_thrown 0 = .ok (.aload_n 0, 1) := by decide +kernel
theorem dX1_thrown_1 : decode cX1_thrown 1 = .ok (.getfield 45, 3) := by decide +kernel
theorem dX1_thrown_4 : decode cX1_thrown 4 = .ok (.ireturn, 1) := by decide +kernel
theorem dX1_fail_0 : decode cX1_fail 0 = .ok (.aload_n 0, 1) := by decide +kernel
theorem dX1_fail_1 : decode cX1_fail 1 = .ok (.iload_n 1, 1) := by decide +kernel
theorem dX1_fail_2 : decode cX1_fail 2 = .ok (.putfield 45, 3) := by decide +kernel
theorem dX1_fail_5 : decode cX1_fail 5 = .ok (.iconst 0, 1) := by decide +kernel
theorem dX1_fail_6 : decode cX1_fail 6 = .ok (.ireturn, 1) := by decide +kernel
theorem dX1_failed_0 : decode cX1_failed 0 = .ok (.aload_n 0, 1) := by decide +kernel
theorem dX1_failed_1 : decode cX1_failed 1 = .ok (.iload_n 1, 1) := by decide +kernel
theorem dX1_failed_2 : decode cX1_failed 2 = .ok (.putfield 45, 3) := by decide +kernel
theorem dX1_failed_5 : decode cX1_failed 5 = .ok (.iconst 0, 1) := by decide +kernel
theorem dX1_failed_6 : decode cX1_failed 6 = .ok (.ireturn, 1) := by decide +kernel
theorem dX1_told_0 : decode cX1_told 0 = .ok (.aload_n 0, 1) := by decide +kernel
theorem dX1_told_1 : decode cX1_told 1 = .ok (.iconst 0, 1) := by decide +kernel
theorem dX1_told_2 : decode cX1_told 2 = .ok (.putfield 45, 3) := by decide +kernel
theorem dX1_told_5 : decode cX1_told 5 = .ok (.iload_n 1, 1) := by decide +kernel
theorem dX1_told_6 : decode cX1_told 6 = .ok (.ireturn, 1) := by decide +kernel
theorem dX1_isIn_0 : decode cX1_isIn 0 = .ok (.iload_n 0, 1) := by decide +kernel
theorem dX1_isIn_1 : decode cX1_isIn 1 = .ok (.iload_n 1, 1) := by decide +kernel
theorem dX1_isIn_2 : decode cX1_isIn 2 = .ok (.if_icmp .lt 12, 3) := by decide +kernel
theorem dX1_isIn_5 : decode cX1_isIn 5 = .ok (.iload_n 0, 1) := by decide +kernel
theorem dX1_isIn_6 : decode cX1_isIn 6 = .ok (.iload_n 2, 1) := by decide +kernel
theorem dX1_isIn_7 : decode cX1_isIn 7 = .ok (.if_icmp .gt 7, 3) := by decide +kernel
theorem dX1_isIn_10 : decode cX1_isIn 10 = .ok (.iconst 1, 1) := by decide +kernel
theorem dX1_isIn_11 : decode cX1_isIn 11 = .ok (.goto 4, 3) := by decide +kernel
theorem dX1_isIn_14 : decode cX1_isIn 14 = .ok (.iconst 0, 1) := by decide +kernel
theorem dX1_isIn_15 : decode cX1_isIn 15 = .ok (.ireturn, 1) := by decide +kernel
set_option maxRecDepth 20000 in
theorem ggX1_isWord_X1_isIn : GoodIn wsX1_isWord wsX1_isIn := goodIn_r _ [5] (by decide +kernel) (by decide +kernel)
set_option maxRecDepth 20000 in
theorem gX1_isWord_X1_isIn : GoodIn wsX1_isWord (va_wsS RX1 51 yX1_isIn wsX1_isIn) := goodIn_app (goodIn_of _ (by decide +kernel)) ggX1_isWord_X1_isIn
theorem dX1_isWord_0 : decode cX1_isWord 0 = .ok (.iload_n 1, 1) := by decide +kernel
theorem dX1_isWord_1 : decode cX1_isWord 1 = .ok (.iconst 0, 1) := by decide +kernel
theorem dX1_isWord_2 : decode cX1_isWord 2 = .ok (.aload_n 0, 1) := by decide +kernel
theorem dX1_isWord_3 : decode cX1_isWord 3 = .ok (.getfield 48, 3) := by decide +kernel
theorem dX1_isWord_6 : decode cX1_isWord 6 = .ok (.iconst 1, 1) := by decide +kernel
theorem dX1_isWord_7 : decode cX1_isWord 7 = .ok (.isub, 1) := by decide +kernel
theorem dX1_isWord_8 : decode cX1_isWord 8 = .ok (.invokestatic 51, 3) := by decide +kernel
theorem dX1_isWord_11 : decode cX1_isWord 11 = .ok (.ireturn, 1) := by decide +kernel
set_option maxRecDepth 20000 in
theorem ggX1_isPlace_X1_isIn : GoodIn wsX1_isPlace wsX1_isIn := goodIn_r _ [5] (by decide +kernel) (by decide +kernel)
set_option maxRecDepth 20000 in
theorem gX1_isPlace_X1_isIn : GoodIn wsX1_isPlace (va_wsS RX1 51 yX1_isIn wsX1_isIn) := goodIn_app (goodIn_of _ (by decide +kernel)) ggX1_isPlace_X1_isIn
theorem dX1_isPlace_0 : decode cX1_isPlace 0 = .ok (.iload_n 1, 1) := by decide +kernel
theorem dX1_isPlace_1 : decode cX1_isPlace 1 = .ok (.iconst 0, 1) := by decide +kernel
theorem dX1_isPlace_2 : decode cX1_isPlace 2 = .ok (.aload_n 0, 1) := by decide +kernel
theorem dX1_isPlace_3 : decode cX1_isPlace 3 = .ok (.getfield 55, 3) := by decide +kernel
theorem dX1_isPlace_6 : decode cX1_isPlace 6 = .ok (.iconst 1, 1) := by decide +kernel
theorem dX1_isPlace_7 : decode cX1_isPlace 7 = .ok (.isub, 1) := by decide +kernel
theorem dX1_isPlace_8 : decode cX1_isPlace 8 = .ok (.invokestatic 51, 3) := by decide +kernel
theorem dX1_isPlace_11 : decode cX1_isPlace 11 = .ok (.ireturn, 1) := by decide +kernel
set_option maxRecDepth 20000 in
theorem ggX1_arePair_X1_isWord : GoodIn wsX1_arePair wsX1_isWord := goodIn_r _ [6, 7, 8, 9, 5, 10, 11, 12, 13, 14, 15, 16, 17, 18, 19, 20, 21, 22, 23, 24, 25, 26] (by decide +kernel) (by decide +kernel)
set_option maxRecDepth 20000 in
theorem gX1_arePair_X1_isWord : GoodIn wsX1_arePair (wsV RX1 58 RX1 yX1_isWord wsX1_isWord) := goodIn_app (goodIn_of _ (by decide +kernel)) ggX1_arePair_X1_isWord
theorem dX1_arePair_0 : decode cX1_arePair 0 = .ok (.aload_n 0, 1) := by decide +kernel
theorem dX1_arePair_1 : decode cX1_arePair 1 = .ok (.aload_n 0, 1) := by decide +kernel
theorem dX1_arePair_2 : decode cX1_arePair 2 = .ok (.iload_n 1, 1) := by decide +kernel
theorem dX1_arePair_3 : decode cX1_arePair 3 = .ok (.invokevirtual 58, 3) := by decide +kernel
theorem dX1_arePair_6 : decode cX1_arePair 6 = .ok (.ifCond .eq 15, 3) := by decide +kernel
theorem dX1_arePair_9 : decode cX1_arePair 9 = .ok (.aload_n 0, 1) := by decide +kernel
theorem dX1_arePair_10 : decode cX1_arePair 10 = .ok (.iload_n 2, 1) := by decide +kernel
theorem dX1_arePair_11 : decode cX1_arePair 11 = .ok (.invokevirtual 58, 3) := by decide +kernel
theorem dX1_arePair_14 : decode cX1_arePair 14 = .ok (.ifCond .eq 7, 3) := by decide +kernel
theorem dX1_arePair_17 : decode cX1_arePair 17 = .ok (.iconst 0, 1) := by decide +kernel
theorem dX1_arePair_18 : decode cX1_arePair 18 = .ok (.goto 4, 3) := by decide +kernel
theorem dX1_arePair_21 : decode cX1_arePair 21 = .ok (.iconst 1, 1) := by decide +kernel
theorem dX1_arePair_22 : decode cX1_arePair 22 = .ok (.putfield 45, 3) := by decide +kernel
theorem dX1_arePair_25 : decode cX1_arePair 25 = .ok (.aload_n 0, 1) := by decide +kernel
theorem dX1_arePair_26 : decode cX1_arePair 26 = .ok (.getfield 45, 3) := by decide +kernel
theorem dX1_arePair_29 : decode cX1_arePair 29 = .ok (.ifCond .ne 7, 3) := by decide +kernel
theorem dX1_arePair_32 : decode cX1_arePair 32 = .ok (.iconst 1, 1) := by decide +kernel
theorem dX1_arePair_33 : decode cX1_arePair 33 = .ok (.goto 4, 3) := by decide +kernel
theorem dX1_arePair_36 : decode cX1_arePair 36 = .ok (.iconst 0, 1) := by decide +kernel
theorem dX1_arePair_37 : decode cX1_arePair 37 = .ok (.ireturn, 1) := by decide +kernel
theorem dX1_has_0 : decode cX1_has 0 = .ok (.iload_n 0, 1) := by decide +kernel
theorem dX1_has_1 : decode cX1_has 1 = .ok (.iload_n 1, 1) := by decide +kernel
theorem dX1_has_2 : decode cX1_has 2 = .ok (.ishr, 1) := by decide +kernel
theorem dX1_has_3 : decode cX1_has 3 = .ok (.iconst 1, 1) := by decide +kernel
theorem dX1_has_4 : decode cX1_has 4 = .ok (.iand, 1) := by decide +kernel
theorem dX1_has_5 : decode cX1_has 5 = .ok (.iconst 1, 1) := by decide +kernel
theorem dX1_has_6 : decode cX1_has 6 = .ok (.if_icmp .ne 7, 3) := by decide +kernel
theorem dX1_has_9 : decode cX1_has 9 = .ok (.iconst 1, 1) := by decide +kernel
theorem dX1_has_10 : decode cX1_has 10 = .ok (.goto 4, 3) := by decide +kernel
theorem dX1_has_13 : decode cX1_has 13 = .ok (.iconst 0, 1) := by decide +kernel
theorem dX1_has_14 : decode cX1_has 14 = .ok (.ireturn, 1) := by decide +kernel
theorem dX1_counts_0 : decode cX1_counts 0 = .ok (.iload_n 1, 1) := by decide +kernel
theorem dX1_counts_1 : decode cX1_counts 1 = .ok (.aload_n 0, 1) := by decide +kernel
theorem dX1_counts_2 : decode cX1_counts 2 = .ok (.getfield 7, 3) := by decide +kernel
theorem dX1_counts_5 : decode cX1_counts 5 = .ok (.iadd, 1) := by decide +kernel
theorem dX1_counts_6 : decode cX1_counts 6 = .ok (.iconst 1, 1) := by decide +kernel
theorem dX1_counts_7 : decode cX1_counts 7 = .ok (.isub, 1) := by decide +kernel
theorem dX1_counts_8 : decode cX1_counts 8 = .ok (.aload_n 0, 1) := by decide +kernel
theorem dX1_counts_9 : decode cX1_counts 9 = .ok (.getfield 7, 3) := by decide +kernel
theorem dX1_counts_12 : decode cX1_counts 12 = .ok (.idiv, 1) := by decide +kernel
theorem dX1_counts_13 : decode cX1_counts 13 = .ok (.ireturn, 1) := by decide +kernel
theorem dX1_lifted_0 : decode cX1_lifted 0 = .ok (.aload_n 0, 1) := by decide +kernel
theorem dX1_lifted_1 : decode cX1_lifted 1 = .ok (.getfield 55, 3) := by decide +kernel
theorem dX1_lifted_4 : decode cX1_lifted 4 = .ok (.ifCond .ne 7, 3) := by decide +kernel
theorem dX1_lifted_7 : decode cX1_lifted 7 = .ok (.iconst 0, 1) := by decide +kernel
theorem dX1_lifted_8 : decode cX1_lifted 8 = .ok (.goto 11, 3) := by decide +kernel
theorem dX1_lifted_11 : decode cX1_lifted 11 = .ok (.aload_n 0, 1) := by decide +kernel
theorem dX1_lifted_12 : decode cX1_lifted 12 = .ok (.getfield 13, 3) := by decide +kernel
theorem dX1_lifted_15 : decode cX1_lifted 15 = .ok (.iload_n 1, 1) := by decide +kernel
theorem dX1_lifted_16 : decode cX1_lifted 16 = .ok (.invokestatic 62, 3) := by decide +kernel
theorem dX1_lifted_19 : decode cX1_lifted 19 = .ok (.ireturn, 1) := by decide +kernel
set_option maxRecDepth 20000 in
theorem ggX1_countNow_X1_counts : GoodIn wsX1_countNow wsX1_counts := goodIn_r _ [9, 10, 20, 21, 22, 23, 24, 25, 26, 27, 28, 29, 30, 31, 32, 33, 34, 35] (by decide +kernel) (by decide +kernel)
set_option maxRecDepth 20000 in
theorem gX1_countNow_X1_counts : GoodIn wsX1_countNow (wsV RX1 68 RX1 yX1_counts wsX1_counts) := goodIn_app (goodIn_of _ (by decide +kernel)) ggX1_countNow_X1_counts
set_option maxRecDepth 20000 in
theorem ggX1_countNow_X1_lifted : GoodIn wsX1_countNow wsX1_lifted := goodIn_r _ [14, 1, 15, 16, 17, 18, 19, 20, 21, 22, 23, 24, 25, 26, 27, 28, 29, 30, 31, 32, 33, 34, 35] (by decide +kernel) (by decide +kernel)
set_option maxRecDepth 20000 in
theorem gX1_countNow_X1_lifted : GoodIn wsX1_countNow (wsV RX1 72 RX1 yX1_lifted wsX1_lifted) := goodIn_app (goodIn_of _ (by decide +kernel)) ggX1_countNow_X1_lifted
theorem dX1_countNow_0 : decode cX1_countNow 0 = .ok (.iconst 0, 1) := by decide +kernel
theorem dX1_countNow_1 : decode cX1_countNow 1 = .ok (.istore_n 1, 1) := by decide +kernel
theorem dX1_countNow_2 : decode cX1_countNow 2 = .ok (.iconst 0, 1) := by decide +kernel
theorem dX1_countNow_3 : decode cX1_countNow 3 = .ok (.istore_n 2, 1) := by decide +kernel
theorem dX1_countNow_4 : decode cX1_countNow 4 = .ok (.iload_n 2, 1) := by decide +kernel
theorem dX1_countNow_5 : decode cX1_countNow 5 = .ok (.aload_n 0, 1) := by decide +kernel
theorem dX1_countNow_6 : decode cX1_countNow 6 = .ok (.getfield 55, 3) := by decide +kernel
theorem dX1_countNow_9 : decode cX1_countNow 9 = .ok (.if_icmp .ge 55, 3) := by decide +kernel
theorem dX1_countNow_12 : decode cX1_countNow 12 = .ok (.aload_n 0, 1) := by decide +kernel
theorem dX1_countNow_13 : decode cX1_countNow 13 = .ok (.getfield 19, 3) := by decide +kernel
theorem dX1_countNow_16 : decode cX1_countNow 16 = .ok (.aload_n 0, 1) := by decide +kernel
theorem dX1_countNow_17 : decode cX1_countNow 17 = .ok (.getfield 29, 3) := by decide +kernel
theorem dX1_countNow_20 : decode cX1_countNow 20 = .ok (.iload_n 2, 1) := by decide +kernel
theorem dX1_countNow_21 : decode cX1_countNow 21 = .ok (.iaload, 1) := by decide +kernel
theorem dX1_countNow_22 : decode cX1_countNow 22 = .ok (.iaload, 1) := by decide +kernel
theorem dX1_countNow_23 : decode cX1_countNow 23 = .ok (.istore_n 3, 1) := by decide +kernel
theorem dX1_countNow_24 : decode cX1_countNow 24 = .ok (.aload_n 0, 1) := by decide +kernel
theorem dX1_countNow_25 : decode cX1_countNow 25 = .ok (.getfield 32, 3) := by decide +kernel
theorem dX1_countNow_28 : decode cX1_countNow 28 = .ok (.iload_n 2, 1) := by decide +kernel
theorem dX1_countNow_29 : decode cX1_countNow 29 = .ok (.baload, 1) := by decide +kernel
theorem dX1_countNow_30 : decode cX1_countNow 30 = .ok (.ifCond .eq 20, 3) := by decide +kernel
theorem dX1_countNow_33 : decode cX1_countNow 33 = .ok (.iinc 2 1, 3) := by decide +kernel
theorem dX1_countNow_36 : decode cX1_countNow 36 = .ok (.iload_n 3, 1) := by decide +kernel
theorem dX1_countNow_37 : decode cX1_countNow 37 = .ok (.aload_n 0, 1) := by decide +kernel
theorem dX1_countNow_38 : decode cX1_countNow 38 = .ok (.getfield 19, 3) := by decide +kernel
theorem dX1_countNow_41 : decode cX1_countNow 41 = .ok (.aload_n 0, 1) := by decide +kernel
theorem dX1_countNow_42 : decode cX1_countNow 42 = .ok (.getfield 29, 3) := by decide +kernel
theorem dX1_countNow_45 : decode cX1_countNow 45 = .ok (.iload_n 2, 1) := by decide +kernel
theorem dX1_countNow_46 : decode cX1_countNow 46 = .ok (.iaload, 1) := by decide +kernel
theorem dX1_countNow_47 : decode cX1_countNow 47 = .ok (.iaload, 1) := by decide +kernel
theorem dX1_countNow_48 : decode cX1_countNow 48 = .ok (.iadd, 1) := by decide +kernel
theorem dX1_countNow_49 : decode cX1_countNow 49 = .ok (.istore_n 3, 1) := by decide +kernel
theorem dX1_countNow_50 : decode cX1_countNow 50 = .ok (.iload_n 1, 1) := by decide +kernel
theorem dX1_countNow_51 : decode cX1_countNow 51 = .ok (.aload_n 0, 1) := by decide +kernel
theorem dX1_countNow_52 : decode cX1_countNow 52 = .ok (.iload_n 3, 1) := by decide +kernel
theorem dX1_countNow_53 : decode cX1_countNow 53 = .ok (.invokevirtual 68, 3) := by decide +kernel
theorem dX1_countNow_56 : decode cX1_countNow 56 = .ok (.iadd, 1) := by decide +kernel
theorem dX1_countNow_57 : decode cX1_countNow 57 = .ok (.istore_n 1, 1) := by decide +kernel
theorem dX1_countNow_58 : decode cX1_countNow 58 = .ok (.iinc 2 1, 3) := by decide +kernel
theorem dX1_countNow_61 : decode cX1_countNow 61 = .ok (.goto (-57), 3) := by decide +kernel
theorem dX1_countNow_64 : decode cX1_countNow 64 = .ok (.aload_n 0, 1) := by decide +kernel
theorem dX1_countNow_65 : decode cX1_countNow 65 = .ok (.iload_n 1, 1) := by decide +kernel
theorem dX1_countNow_66 : decode cX1_countNow 66 = .ok (.invokevirtual 72, 3) := by decide +kernel
theorem dX1_countNow_69 : decode cX1_countNow 69 = .ok (.ireturn, 1) := by decide +kernel
set_option maxRecDepth 20000 in
theorem ggX1_leastPair_X1_has : GoodIn wsX1_leastPair wsX1_has := goodIn_r _ [14] (by decide +kernel) (by decide +kernel)
set_option maxRecDepth 20000 in
theorem gX1_leastPair_X1_has : GoodIn wsX1_leastPair (va_wsS RX1 76 yX1_has wsX1_has) := goodIn_app (goodIn_of _ (by decide +kernel)) ggX1_leastPair_X1_has
set_option maxRecDepth 20000 in
theorem ggX1_leastPair_X1_counts : GoodIn wsX1_leastPair wsX1_counts := goodIn_r _ [18, 19, 20, 21, 22, 23, 24, 25, 26, 27, 28, 29, 30, 31, 32, 33, 34, 35] (by decide +kernel) (by decide +kernel)
set_option maxRecDepth 20000 in
theorem gX1_leastPair_X1_counts : GoodIn wsX1_leastPair (wsV RX1 68 RX1 yX1_counts wsX1_counts) := goodIn_app (goodIn_of _ (by decide +kernel)) ggX1_leastPair_X1_counts
theorem dX1_leastPair_0 : decode cX1_leastPair 0 = .ok (.ldc 75, 2) := by decide +kernel
theorem dX1_leastPair_2 : decode cX1_leastPair 2 = .ok (.istore_n 2, 1) := by decide +kernel
theorem dX1_leastPair_3 : decode cX1_leastPair 3 = .ok (.iconst 0, 1) := by decide +kernel
theorem dX1_leastPair_4 : decode cX1_leastPair 4 = .ok (.istore_n 3, 1) := by decide +kernel
theorem dX1_leastPair_5 : decode cX1_leastPair 5 = .ok (.iload_n 3, 1) := by decide +kernel
theorem dX1_leastPair_6 : decode cX1_leastPair 6 = .ok (.aload_n 0, 1) := by decide +kernel
theorem dX1_leastPair_7 : decode cX1_leastPair 7 = .ok (.getfield 48, 3) := by decide +kernel
theorem dX1_leastPair_10 : decode cX1_leastPair 10 = .ok (.if_icmp .ge 106, 3) := by decide +kernel
theorem dX1_leastPair_13 : decode cX1_leastPair 13 = .ok (.aload_n 0, 1) := by decide +kernel
theorem dX1_leastPair_14 : decode cX1_leastPair 14 = .ok (.getfield 23, 3) := by decide +kernel
theorem dX1_leastPair_17 : decode cX1_leastPair 17 = .ok (.aload_n 0, 1) := by decide +kernel
theorem dX1_leastPair_18 : decode cX1_leastPair 18 = .ok (.getfield 29, 3) := by decide +kernel
theorem dX1_leastPair_21 : decode cX1_leastPair 21 = .ok (.iload_n 1, 1) := by decide +kernel
theorem dX1_leastPair_22 : decode cX1_leastPair 22 = .ok (.iaload, 1) := by decide +kernel
theorem dX1_leastPair_23 : decode cX1_leastPair 23 = .ok (.iaload, 1) := by decide +kernel
theorem dX1_leastPair_24 : decode cX1_leastPair 24 = .ok (.iload_n 3, 1) := by decide +kernel
theorem dX1_leastPair_25 : decode cX1_leastPair 25 = .ok (.invokestatic 76, 3) := by decide +kernel
theorem dX1_leastPair_28 : decode cX1_leastPair 28 = .ok (.ifCond .ne 6, 3) := by decide +kernel
theorem dX1_leastPair_31 : decode cX1_leastPair 31 = .ok (.goto 79, 3) := by decide +kernel
theorem dX1_leastPair_34 : decode cX1_leastPair 34 = .ok (.iconst 0, 1) := by decide +kernel
theorem dX1_leastPair_35 : decode cX1_leastPair 35 = .ok (.istore 4, 2) := by decide +kernel
theorem dX1_leastPair_37 : decode cX1_leastPair 37 = .ok (.iload 4, 2) := by decide +kernel
theorem dX1_leastPair_39 : decode cX1_leastPair 39 = .ok (.aload_n 0, 1) := by decide +kernel
theorem dX1_leastPair_40 : decode cX1_leastPair 40 = .ok (.getfield 48, 3) := by decide +kernel
theorem dX1_leastPair_43 : decode cX1_leastPair 43 = .ok (.if_icmp .ge 67, 3) := by decide +kernel
theorem dX1_leastPair_46 : decode cX1_leastPair 46 = .ok (.aload_n 0, 1) := by decide +kernel
theorem dX1_leastPair_47 : decode cX1_leastPair 47 = .ok (.getfield 23, 3) := by decide +kernel
theorem dX1_leastPair_50 : decode cX1_leastPair 50 = .ok (.aload_n 0, 1) := by decide +kernel
theorem dX1_leastPair_51 : decode cX1_leastPair 51 = .ok (.getfield 29, 3) := by decide +kernel
theorem dX1_leastPair_54 : decode cX1_leastPair 54 = .ok (.iload_n 1, 1) := by decide +kernel
theorem dX1_leastPair_55 : decode cX1_leastPair 55 = .ok (.iconst 1, 1) := by decide +kernel
theorem dX1_leastPair_56 : decode cX1_leastPair 56 = .ok (.iadd, 1) := by decide +kernel
theorem dX1_leastPair_57 : decode cX1_leastPair 57 = .ok (.iaload, 1) := by decide +kernel
theorem dX1_leastPair_58 : decode cX1_leastPair 58 = .ok (.iaload, 1) := by decide +kernel
theorem dX1_leastPair_59 : decode cX1_leastPair 59 = .ok (.iload 4, 2) := by decide +kernel
theorem dX1_leastPair_61 : decode cX1_leastPair 61 = .ok (.invokestatic 76, 3) := by decide +kernel
theorem dX1_leastPair_64 : decode cX1_leastPair 64 = .ok (.ifCond .eq 40, 3) := by decide +kernel
theorem dX1_leastPair_67 : decode cX1_leastPair 67 = .ok (.aload_n 0, 1) := by decide +kernel
theorem dX1_leastPair_68 : decode cX1_leastPair 68 = .ok (.getfield 26, 3) := by decide +kernel
theorem dX1_leastPair_71 : decode cX1_leastPair 71 = .ok (.iload_n 3, 1) := by decide +kernel
theorem dX1_leastPair_72 : decode cX1_leastPair 72 = .ok (.iaload, 1) := by decide +kernel
theorem dX1_leastPair_73 : decode cX1_leastPair 73 = .ok (.iload 4, 2) := by decide +kernel
theorem dX1_leastPair_75 : decode cX1_leastPair 75 = .ok (.invokestatic 76, 3) := by decide +kernel
theorem dX1_leastPair_78 : decode cX1_leastPair 78 = .ok (.ifCond .eq 26, 3) := by decide +kernel
theorem dX1_leastPair_81 : decode cX1_leastPair 81 = .ok (.iload_n 2, 1) := by decide +kernel
theorem dX1_leastPair_82 : decode cX1_leastPair 82 = .ok (.aload_n 0, 1) := by decide +kernel
theorem dX1_leastPair_83 : decode cX1_leastPair 83 = .ok (.aload_n 0, 1) := by decide +kernel
theorem dX1_leastPair_84 : decode cX1_leastPair 84 = .ok (.getfield 19, 3) := by decide +kernel
theorem dX1_leastPair_87 : decode cX1_leastPair 87 = .ok (.iload_n 3, 1) := by decide +kernel
theorem dX1_leastPair_88 : decode cX1_leastPair 88 = .ok (.iaload, 1) := by decide +kernel
theorem dX1_leastPair_89 : decode cX1_leastPair 89 = .ok (.aload_n 0, 1) := by decide +kernel
theorem dX1_leastPair_90 : decode cX1_leastPair 90 = .ok (.getfield 19, 3) := by decide +kernel
theorem dX1_leastPair_93 : decode cX1_leastPair 93 = .ok (.iload 4, 2) := by decide +kernel
theorem dX1_leastPair_95 : decode cX1_leastPair 95 = .ok (.iaload, 1) := by decide +kernel
theorem dX1_leastPair_96 : decode cX1_leastPair 96 = .ok (.iadd, 1) := by decide +kernel
theorem dX1_leastPair_97 : decode cX1_leastPair 97 = .ok (.invokevirtual 68, 3) := by decide +kernel
theorem dX1_leastPair_100 : decode cX1_leastPair 100 = .ok (.invokestatic 80, 3) := by decide +kernel
theorem dX1_leastPair_103 : decode cX1_leastPair 103 = .ok (.istore_n 2, 1) := by decide +kernel
theorem dX1_leastPair_104 : decode cX1_leastPair 104 = .ok (.iinc 4 1, 3) := by decide +kernel
theorem dX1_leastPair_107 : decode cX1_leastPair 107 = .ok (.goto (-70), 3) := by decide +kernel
theorem dX1_leastPair_110 : decode cX1_leastPair 110 = .ok (.iinc 3 1, 3) := by decide +kernel
theorem dX1_leastPair_113 : decode cX1_leastPair 113 = .ok (.goto (-108), 3) := by decide +kernel
theorem dX1_leastPair_116 : decode cX1_leastPair 116 = .ok (.iload_n 2, 1) := by decide +kernel
theorem dX1_leastPair_117 : decode cX1_leastPair 117 = .ok (.ireturn, 1) := by decide +kernel
set_option maxRecDepth 20000 in
theorem ggX1_leastSingle_X1_has : GoodIn wsX1_leastSingle wsX1_has := goodIn_r _ [13] (by decide +kernel) (by decide +kernel)
set_option maxRecDepth 20000 in
theorem gX1_leastSingle_X1_has : GoodIn wsX1_leastSingle (va_wsS RX1 76 yX1_has wsX1_has) := goodIn_app (goodIn_of _ (by decide +kernel)) ggX1_leastSingle_X1_has
set_option maxRecDepth 20000 in
theorem ggX1_leastSingle_X1_counts : GoodIn wsX1_leastSingle wsX1_counts := goodIn_r _ [17, 18, 19, 20, 21, 22, 23, 24, 25, 26, 27, 28, 29, 30, 31, 32, 33, 34] (by decide +kernel) (by decide +kernel)
set_option maxRecDepth 20000 in
theorem gX1_leastSingle_X1_counts : GoodIn wsX1_leastSingle (wsV RX1 68 RX1 yX1_counts wsX1_counts) := goodIn_app (goodIn_of _ (by decide +kernel)) ggX1_leastSingle_X1_counts
theorem dX1_leastSingle_0 : decode cX1_leastSingle 0 = .ok (.ldc 75, 2) := by decide +kernel
theorem dX1_leastSingle_2 : decode cX1_leastSingle 2 = .ok (.istore_n 2, 1) := by decide +kernel
theorem dX1_leastSingle_3 : decode cX1_leastSingle 3 = .ok (.iconst 0, 1) := by decide +kernel
theorem dX1_leastSingle_4 : decode cX1_leastSingle 4 = .ok (.istore_n 3, 1) := by decide +kernel
theorem dX1_leastSingle_5 : decode cX1_leastSingle 5 = .ok (.iload_n 3, 1) := by decide +kernel
theorem dX1_leastSingle_6 : decode cX1_leastSingle 6 = .ok (.aload_n 0, 1) := by decide +kernel
theorem dX1_leastSingle_7 : decode cX1_leastSingle 7 = .ok (.getfield 48, 3) := by decide +kernel
theorem dX1_leastSingle_10 : decode cX1_leastSingle 10 = .ok (.if_icmp .ge 42, 3) := by decide +kernel
theorem dX1_leastSingle_13 : decode cX1_leastSingle 13 = .ok (.aload_n 0, 1) := by decide +kernel
theorem dX1_leastSingle_14 : decode cX1_leastSingle 14 = .ok (.getfield 23, 3) := by decide +kernel
theorem dX1_leastSingle_17 : decode cX1_leastSingle 17 = .ok (.aload_n 0, 1) := by decide +kernel
theorem dX1_leastSingle_18 : decode cX1_leastSingle 18 = .ok (.getfield 29, 3) := by decide +kernel
theorem dX1_leastSingle_21 : decode cX1_leastSingle 21 = .ok (.iload_n 1, 1) := by decide +kernel
theorem dX1_leastSingle_22 : decode cX1_leastSingle 22 = .ok (.iaload, 1) := by decide +kernel
theorem dX1_leastSingle_23 : decode cX1_leastSingle 23 = .ok (.iaload, 1) := by decide +kernel
theorem dX1_leastSingle_24 : decode cX1_leastSingle 24 = .ok (.iload_n 3, 1) := by decide +kernel
theorem dX1_leastSingle_25 : decode cX1_leastSingle 25 = .ok (.invokestatic 76, 3) := by decide +kernel
theorem dX1_leastSingle_28 : decode cX1_leastSingle 28 = .ok (.ifCond .eq 18, 3) := by decide +kernel
theorem dX1_leastSingle_31 : decode cX1_leastSingle 31 = .ok (.iload_n 2, 1) := by decide +kernel
theorem dX1_leastSingle_32 : decode cX1_leastSingle 32 = .ok (.aload_n 0, 1) := by decide +kernel
theorem dX1_leastSingle_33 : decode cX1_leastSingle 33 = .ok (.aload_n 0, 1) := by decide +kernel
theorem dX1_leastSingle_34 : decode cX1_leastSingle 34 = .ok (.getfield 19, 3) := by decide +kernel
theorem dX1_leastSingle_37 : decode cX1_leastSingle 37 = .ok (.iload_n 3, 1) := by decide +kernel
theorem dX1_leastSingle_38 : decode cX1_leastSingle 38 = .ok (.iaload, 1) := by decide +kernel
theorem dX1_leastSingle_39 : decode cX1_leastSingle 39 = .ok (.invokevirtual 68, 3) := by decide +kernel
theorem dX1_leastSingle_42 : decode cX1_leastSingle 42 = .ok (.invokestatic 80, 3) := by decide +kernel
theorem dX1_leastSingle_45 : decode cX1_leastSingle 45 = .ok (.istore_n 2, 1) := by decide +kernel
theorem dX1_leastSingle_46 : decode cX1_leastSingle 46 = .ok (.iinc 3 1, 3) := by decide +kernel
theorem dX1_leastSingle_49 : decode cX1_leastSingle 49 = .ok (.goto (-44), 3) := by decide +kernel
theorem dX1_leastSingle_52 : decode cX1_leastSingle 52 = .ok (.iload_n 2, 1) := by decide +kernel
theorem dX1_leastSingle_53 : decode cX1_leastSingle 53 = .ok (.ireturn, 1) := by decide +kernel
set_option maxRecDepth 20000 in
theorem ggX1_reckon_X1_leastSingle : GoodIn wsX1_reckon wsX1_leastSingle := goodIn_r _ [11, 12, 13, 14, 15, 16, 3, 4, 5, 6, 17, 18, 10, 19, 20, 21, 22, 23, 24, 30, 31, 32, 33, 34, 35, 36, 37, 38, 39, 40, 41, 42, 43, 44, 45] (by decide +kernel) (by decide +kernel)
set_option maxRecDepth 20000 in
theorem gX1_reckon_X1_leastSingle : GoodIn wsX1_reckon (wsV RX1 83 RX1 yX1_leastSingle wsX1_leastSingle) := goodIn_app (goodIn_of _ (by decide +kernel)) ggX1_reckon_X1_leastSingle
set_option maxRecDepth 20000 in
theorem ggX1_reckon_X1_leastPair : GoodIn wsX1_reckon wsX1_leastPair := goodIn_r _ [28, 12, 13, 14, 15, 29, 16, 3, 4, 5, 6, 17, 18, 10, 19, 20, 21, 22, 23, 24, 30, 31, 32, 33, 34, 35, 36, 37, 38, 39, 40, 41, 42, 43, 44, 45] (by decide +kernel) (by decide +kernel)
set_option maxRecDepth 20000 in
theorem gX1_reckon_X1_leastPair : GoodIn wsX1_reckon (wsV RX1 86 RX1 yX1_leastPair wsX1_leastPair) := goodIn_app (goodIn_of _ (by decide +kernel)) ggX1_reckon_X1_leastPair
theorem dX1_reckon_0 : decode cX1_reckon 0 = .ok (.aload_n 0, 1) := by decide +kernel
theorem dX1_reckon_1 : decode cX1_reckon 1 = .ok (.getfield 36, 3) := by decide +kernel
theorem dX1_reckon_4 : decode cX1_reckon 4 = .ok (.aload_n 0, 1) := by decide +kernel
theorem dX1_reckon_5 : decode cX1_reckon 5 = .ok (.getfield 55, 3) := by decide +kernel
theorem dX1_reckon_8 : decode cX1_reckon 8 = .ok (.iconst 0, 1) := by decide +kernel
theorem dX1_reckon_9 : decode cX1_reckon 9 = .ok (.iastore, 1) := by decide +kernel
theorem dX1_reckon_10 : decode cX1_reckon 10 = .ok (.aload_n 0, 1) := by decide +kernel
theorem dX1_reckon_11 : decode cX1_reckon 11 = .ok (.getfield 55, 3) := by decide +kernel
theorem dX1_reckon_14 : decode cX1_reckon 14 = .ok (.iconst 1, 1) := by decide +kernel
theorem dX1_reckon_15 : decode cX1_reckon 15 = .ok (.isub, 1) := by decide +kernel
theorem dX1_reckon_16 : decode cX1_reckon 16 = .ok (.istore_n 1, 1) := by decide +kernel
theorem dX1_reckon_17 : decode cX1_reckon 17 = .ok (.iload_n 1, 1) := by decide +kernel
theorem dX1_reckon_18 : decode cX1_reckon 18 = .ok (.ifCond .lt 68, 3) := by decide +kernel
theorem dX1_reckon_21 : decode cX1_reckon 21 = .ok (.aload_n 0, 1) := by decide +kernel
theorem dX1_reckon_22 : decode cX1_reckon 22 = .ok (.getfield 36, 3) := by decide +kernel
theorem dX1_reckon_25 : decode cX1_reckon 25 = .ok (.iload_n 1, 1) := by decide +kernel
theorem dX1_reckon_26 : decode cX1_reckon 26 = .ok (.aload_n 0, 1) := by decide +kernel
theorem dX1_reckon_27 : decode cX1_reckon 27 = .ok (.iload_n 1, 1) := by decide +kernel
theorem dX1_reckon_28 : decode cX1_reckon 28 = .ok (.invokevirtual 83, 3) := by decide +kernel
theorem dX1_reckon_31 : decode cX1_reckon 31 = .ok (.aload_n 0, 1) := by decide +kernel
theorem dX1_reckon_32 : decode cX1_reckon 32 = .ok (.getfield 36, 3) := by decide +kernel
theorem dX1_reckon_35 : decode cX1_reckon 35 = .ok (.iload_n 1, 1) := by decide +kernel
theorem dX1_reckon_36 : decode cX1_reckon 36 = .ok (.iconst 1, 1) := by decide +kernel
theorem dX1_reckon_37 : decode cX1_reckon 37 = .ok (.iadd, 1) := by decide +kernel
theorem dX1_reckon_38 : decode cX1_reckon 38 = .ok (.iaload, 1) := by decide +kernel
theorem dX1_reckon_39 : decode cX1_reckon 39 = .ok (.iadd, 1) := by decide +kernel
theorem dX1_reckon_40 : decode cX1_reckon 40 = .ok (.iastore, 1) := by decide +kernel
theorem dX1_reckon_41 : decode cX1_reckon 41 = .ok (.iload_n 1, 1) := by decide +kernel
theorem dX1_reckon_42 : decode cX1_reckon 42 = .ok (.aload_n 0, 1) := by decide +kernel
theorem dX1_reckon_43 : decode cX1_reckon 43 = .ok (.getfield 55, 3) := by decide +kernel
theorem dX1_reckon_46 : decode cX1_reckon 46 = .ok (.iconst 1, 1) := by decide +kernel
theorem dX1_reckon_47 : decode cX1_reckon 47 = .ok (.isub, 1) := by decide +kernel
theorem dX1_reckon_48 : decode cX1_reckon 48 = .ok (.if_icmp .ge 32, 3) := by decide +kernel
theorem dX1_reckon_51 : decode cX1_reckon 51 = .ok (.aload_n 0, 1) := by decide +kernel
theorem dX1_reckon_52 : decode cX1_reckon 52 = .ok (.getfield 36, 3) := by decide +kernel
theorem dX1_reckon_55 : decode cX1_reckon 55 = .ok (.iload_n 1, 1) := by decide +kernel
theorem dX1_reckon_56 : decode cX1_reckon 56 = .ok (.aload_n 0, 1) := by decide +kernel
theorem dX1_reckon_57 : decode cX1_reckon 57 = .ok (.getfield 36, 3) := by decide +kernel
theorem dX1_reckon_60 : decode cX1_reckon 60 = .ok (.iload_n 1, 1) := by decide +kernel
theorem dX1_reckon_61 : decode cX1_reckon 61 = .ok (.iaload, 1) := by decide +kernel
theorem dX1_reckon_62 : decode cX1_reckon 62 = .ok (.aload_n 0, 1) := by decide +kernel
theorem dX1_reckon_63 : decode cX1_reckon 63 = .ok (.iload_n 1, 1) := by decide +kernel
theorem dX1_reckon_64 : decode cX1_reckon 64 = .ok (.invokevirtual 86, 3) := by decide +kernel
theorem dX1_reckon_67 : decode cX1_reckon 67 = .ok (.aload_n 0, 1) := by decide +kernel
theorem dX1_reckon_68 : decode cX1_reckon 68 = .ok (.getfield 36, 3) := by decide +kernel
theorem dX1_reckon_71 : decode cX1_reckon 71 = .ok (.iload_n 1, 1) := by decide +kernel
theorem dX1_reckon_72 : decode cX1_reckon 72 = .ok (.iconst 2, 1) := by decide +kernel
theorem dX1_reckon_73 : decode cX1_reckon 73 = .ok (.iadd, 1) := by decide +kernel
theorem dX1_reckon_74 : decode cX1_reckon 74 = .ok (.iaload, 1) := by decide +kernel
theorem dX1_reckon_75 : decode cX1_reckon 75 = .ok (.iadd, 1) := by decide +kernel
theorem dX1_reckon_76 : decode cX1_reckon 76 = .ok (.invokestatic 80, 3) := by decide +kernel
theorem dX1_reckon_79 : decode cX1_reckon 79 = .ok (.iastore, 1) := by decide +kernel
theorem dX1_reckon_80 : decode cX1_reckon 80 = .ok (.iinc 1 (-1), 3) := by decide +kernel
theorem dX1_reckon_83 : decode cX1_reckon 83 = .ok (.goto (-66), 3) := by decide +kernel
theorem dX1_reckon_86 : decode cX1_reckon 86 = .ok (.aload_n 0, 1) := by decide +kernel
theorem dX1_reckon_87 : decode cX1_reckon 87 = .ok (.getfield 36, 3) := by decide +kernel
theorem dX1_reckon_90 : decode cX1_reckon 90 = .ok (.iconst 0, 1) := by decide +kernel
theorem dX1_reckon_91 : decode cX1_reckon 91 = .ok (.iaload, 1) := by decide +kernel
theorem dX1_reckon_92 : decode cX1_reckon 92 = .ok (.ireturn, 1) := by decide +kernel
set_option maxRecDepth 20000 in
theorem ggX1_single_X1_has : GoodIn wsX1_single wsX1_has := goodIn_r _ [9] (by decide +kernel) (by decide +kernel)
set_option maxRecDepth 20000 in
theorem gX1_single_X1_has : GoodIn wsX1_single (va_wsS RX1 76 yX1_has wsX1_has) := goodIn_app (goodIn_of _ (by decide +kernel)) ggX1_single_X1_has
set_option maxRecDepth 20000 in
theorem ggX1_single_X1_counts : GoodIn wsX1_single wsX1_counts := goodIn_r _ [13, 14, 15, 16, 17, 18, 19, 20, 21, 22, 23, 24, 25, 26, 27, 28, 29, 30] (by decide +kernel) (by decide +kernel)
set_option maxRecDepth 20000 in
theorem gX1_single_X1_counts : GoodIn wsX1_single (wsV RX1 68 RX1 yX1_counts wsX1_counts) := goodIn_app (goodIn_of _ (by decide +kernel)) ggX1_single_X1_counts
theorem dX1_single_0 : decode cX1_single 0 = .ok (.iconst 0, 1) := by decide +kernel
theorem dX1_single_1 : decode cX1_single 1 = .ok (.istore_n 2, 1) := by decide +kernel
theorem dX1_single_2 : decode cX1_single 2 = .ok (.iload_n 2, 1) := by decide +kernel
theorem dX1_single_3 : decode cX1_single 3 = .ok (.aload_n 0, 1) := by decide +kernel
theorem dX1_single_4 : decode cX1_single 4 = .ok (.getfield 48, 3) := by decide +kernel
theorem dX1_single_7 : decode cX1_single 7 = .ok (.if_icmp .ge 57, 3) := by decide +kernel
theorem dX1_single_10 : decode cX1_single 10 = .ok (.aload_n 0, 1) := by decide +kernel
theorem dX1_single_11 : decode cX1_single 11 = .ok (.getfield 23, 3) := by decide +kernel
theorem dX1_single_14 : decode cX1_single 14 = .ok (.aload_n 0, 1) := by decide +kernel
theorem dX1_single_15 : decode cX1_single 15 = .ok (.getfield 29, 3) := by decide +kernel
theorem dX1_single_18 : decode cX1_single 18 = .ok (.iload_n 1, 1) := by decide +kernel
theorem dX1_single_19 : decode cX1_single 19 = .ok (.iaload, 1) := by decide +kernel
theorem dX1_single_20 : decode cX1_single 20 = .ok (.iaload, 1) := by decide +kernel
theorem dX1_single_21 : decode cX1_single 21 = .ok (.iload_n 2, 1) := by decide +kernel
theorem dX1_single_22 : decode cX1_single 22 = .ok (.invokestatic 76, 3) := by decide +kernel
theorem dX1_single_25 : decode cX1_single 25 = .ok (.ifCond .eq 33, 3) := by decide +kernel
theorem dX1_single_28 : decode cX1_single 28 = .ok (.aload_n 0, 1) := by decide +kernel
theorem dX1_single_29 : decode cX1_single 29 = .ok (.aload_n 0, 1) := by decide +kernel
theorem dX1_single_30 : decode cX1_single 30 = .ok (.getfield 19, 3) := by decide +kernel
theorem dX1_single_33 : decode cX1_single 33 = .ok (.iload_n 2, 1) := by decide +kernel
theorem dX1_single_34 : decode cX1_single 34 = .ok (.iaload, 1) := by decide +kernel
theorem dX1_single_35 : decode cX1_single 35 = .ok (.invokevirtual 68, 3) := by decide +kernel
theorem dX1_single_38 : decode cX1_single 38 = .ok (.aload_n 0, 1) := by decide +kernel
theorem dX1_single_39 : decode cX1_single 39 = .ok (.getfield 36, 3) := by decide +kernel
theorem dX1_single_42 : decode cX1_single 42 = .ok (.iload_n 1, 1) := by decide +kernel
theorem dX1_single_43 : decode cX1_single 43 = .ok (.iconst 1, 1) := by decide +kernel
theorem dX1_single_44 : decode cX1_single 44 = .ok (.iadd, 1) := by decide +kernel
theorem dX1_single_45 : decode cX1_single 45 = .ok (.iaload, 1) := by decide +kernel
theorem dX1_single_46 : decode cX1_single 46 = .ok (.iadd, 1) := by decide +kernel
theorem dX1_single_47 : decode cX1_single 47 = .ok (.aload_n 0, 1) := by decide +kernel
theorem dX1_single_48 : decode cX1_single 48 = .ok (.getfield 36, 3) := by decide +kernel
theorem dX1_single_51 : decode cX1_single 51 = .ok (.iload_n 1, 1) := by decide +kernel
theorem dX1_single_52 : decode cX1_single 52 = .ok (.iaload, 1) := by decide +kernel
theorem dX1_single_53 : decode cX1_single 53 = .ok (.if_icmp .ne 5, 3) := by decide +kernel
theorem dX1_single_56 : decode cX1_single 56 = .ok (.iload_n 2, 1) := by decide +kernel
theorem dX1_single_57 : decode cX1_single 57 = .ok (.ireturn, 1) := by decide +kernel
theorem dX1_single_58 : decode cX1_single 58 = .ok (.iinc 2 1, 3) := by decide +kernel
theorem dX1_single_61 : decode cX1_single 61 = .ok (.goto (-59), 3) := by decide +kernel
theorem dX1_single_64 : decode cX1_single 64 = .ok (.iconst (-1), 1) := by decide +kernel
theorem dX1_single_65 : decode cX1_single 65 = .ok (.ireturn, 1) := by decide +kernel
set_option maxRecDepth 20000 in
theorem ggX1_pair_X1_has : GoodIn wsX1_pair wsX1_has := goodIn_r _ [11] (by decide +kernel) (by decide +kernel)
set_option maxRecDepth 20000 in
theorem gX1_pair_X1_has : GoodIn wsX1_pair (va_wsS RX1 76 yX1_has wsX1_has) := goodIn_app (goodIn_of _ (by decide +kernel)) ggX1_pair_X1_has
set_option maxRecDepth 20000 in
theorem ggX1_pair_X1_counts : GoodIn wsX1_pair wsX1_counts := goodIn_r _ [15, 16, 17, 18, 19, 20, 21, 22, 23, 24, 25, 26, 27, 28, 29, 30, 31, 32] (by decide +kernel) (by decide +kernel)
set_option maxRecDepth 20000 in
theorem gX1_pair_X1_counts : GoodIn wsX1_pair (wsV RX1 68 RX1 yX1_counts wsX1_counts) := goodIn_app (goodIn_of _ (by decide +kernel)) ggX1_pair_X1_counts
theorem dX1_pair_0 : decode cX1_pair 0 = .ok (.iconst 0, 1) := by decide +kernel
theorem dX1_pair_1 : decode cX1_pair 1 = .ok (.istore_n 2, 1) := by decide +kernel
theorem dX1_pair_2 : decode cX1_pair 2 = .ok (.iload_n 2, 1) := by decide +kernel
theorem dX1_pair_3 : decode cX1_pair 3 = .ok (.aload_n 0, 1) := by decide +kernel
theorem dX1_pair_4 : decode cX1_pair 4 = .ok (.getfield 48, 3) := by decide +kernel
theorem dX1_pair_7 : decode cX1_pair 7 = .ok (.if_icmp .ge 134, 3) := by decide +kernel
theorem dX1_pair_10 : decode cX1_pair 10 = .ok (.aload_n 0, 1) := by decide +kernel
theorem dX1_pair_11 : decode cX1_pair 11 = .ok (.getfield 23, 3) := by decide +kernel
theorem dX1_pair_14 : decode cX1_pair 14 = .ok (.aload_n 0, 1) := by decide +kernel
theorem dX1_pair_15 : decode cX1_pair 15 = .ok (.getfield 29, 3) := by decide +kernel
theorem dX1_pair_18 : decode cX1_pair 18 = .ok (.iload_n 1, 1) := by decide +kernel
theorem dX1_pair_19 : decode cX1_pair 19 = .ok (.iaload, 1) := by decide +kernel
theorem dX1_pair_20 : decode cX1_pair 20 = .ok (.iaload, 1) := by decide +kernel
theorem dX1_pair_21 : decode cX1_pair 21 = .ok (.iload_n 2, 1) := by decide +kernel
theorem dX1_pair_22 : decode cX1_pair 22 = .ok (.invokestatic 76, 3) := by decide +kernel
theorem dX1_pair_25 : decode cX1_pair 25 = .ok (.ifCond .ne 6, 3) := by decide +kernel
theorem dX1_pair_28 : decode cX1_pair 28 = .ok (.goto 107, 3) := by decide +kernel
theorem dX1_pair_31 : decode cX1_pair 31 = .ok (.iconst 0, 1) := by decide +kernel
theorem dX1_pair_32 : decode cX1_pair 32 = .ok (.istore_n 3, 1) := by decide +kernel
theorem dX1_pair_33 : decode cX1_pair 33 = .ok (.iload_n 3, 1) := by decide +kernel
theorem dX1_pair_34 : decode cX1_pair 34 = .ok (.aload_n 0, 1) := by decide +kernel
theorem dX1_pair_35 : decode cX1_pair 35 = .ok (.getfield 48, 3) := by decide +kernel
theorem dX1_pair_38 : decode cX1_pair 38 = .ok (.if_icmp .ge 97, 3) := by decide +kernel
theorem dX1_pair_41 : decode cX1_pair 41 = .ok (.aload_n 0, 1) := by decide +kernel
theorem dX1_pair_42 : decode cX1_pair 42 = .ok (.getfield 23, 3) := by decide +kernel
theorem dX1_pair_45 : decode cX1_pair 45 = .ok (.aload_n 0, 1) := by decide +kernel
theorem dX1_pair_46 : decode cX1_pair 46 = .ok (.getfield 29, 3) := by decide +kernel
theorem dX1_pair_49 : decode cX1_pair 49 = .ok (.iload_n 1, 1) := by decide +kernel
theorem dX1_pair_50 : decode cX1_pair 50 = .ok (.iconst 1, 1) := by decide +kernel
theorem dX1_pair_51 : decode cX1_pair 51 = .ok (.iadd, 1) := by decide +kernel
theorem dX1_pair_52 : decode cX1_pair 52 = .ok (.iaload, 1) := by decide +kernel
theorem dX1_pair_53 : decode cX1_pair 53 = .ok (.iaload, 1) := by decide +kernel
theorem dX1_pair_54 : decode cX1_pair 54 = .ok (.iload_n 3, 1) := by decide +kernel
theorem dX1_pair_55 : decode cX1_pair 55 = .ok (.invokestatic 76, 3) := by decide +kernel
theorem dX1_pair_58 : decode cX1_pair 58 = .ok (.ifCond .eq 71, 3) := by decide +kernel
theorem dX1_pair_61 : decode cX1_pair 61 = .ok (.aload_n 0, 1) := by decide +kernel
theorem dX1_pair_62 : decode cX1_pair 62 = .ok (.getfield 26, 3) := by decide +kernel
theorem dX1_pair_65 : decode cX1_pair 65 = .ok (.iload_n 2, 1) := by decide +kernel
theorem dX1_pair_66 : decode cX1_pair 66 = .ok (.iaload, 1) := by decide +kernel
theorem dX1_pair_67 : decode cX1_pair 67 = .ok (.iload_n 3, 1) := by decide +kernel
theorem dX1_pair_68 : decode cX1_pair 68 = .ok (.invokestatic 76, 3) := by decide +kernel
theorem dX1_pair_71 : decode cX1_pair 71 = .ok (.ifCond .eq 58, 3) := by decide +kernel
theorem dX1_pair_74 : decode cX1_pair 74 = .ok (.aload_n 0, 1) := by decide +kernel
theorem dX1_pair_75 : decode cX1_pair 75 = .ok (.aload_n 0, 1) := by decide +kernel
theorem dX1_pair_76 : decode cX1_pair 76 = .ok (.getfield 19, 3) := by decide +kernel
theorem dX1_pair_79 : decode cX1_pair 79 = .ok (.iload_n 2, 1) := by decide +kernel
theorem dX1_pair_80 : decode cX1_pair 80 = .ok (.iaload, 1) := by decide +kernel
theorem dX1_pair_81 : decode cX1_pair 81 = .ok (.aload_n 0, 1) := by decide +kernel
theorem dX1_pair_82 : decode cX1_pair 82 = .ok (.getfield 19, 3) := by decide +kernel
theorem dX1_pair_85 : decode cX1_pair 85 = .ok (.iload_n 3, 1) := by decide +kernel
theorem dX1_pair_86 : decode cX1_pair 86 = .ok (.iaload, 1) := by decide +kernel
theorem dX1_pair_87 : decode cX1_pair 87 = .ok (.iadd, 1) := by decide +kernel
theorem dX1_pair_88 : decode cX1_pair 88 = .ok (.invokevirtual 68, 3) := by decide +kernel
theorem dX1_pair_91 : decode cX1_pair 91 = .ok (.aload_n 0, 1) := by decide +kernel
theorem dX1_pair_92 : decode cX1_pair 92 = .ok (.getfield 36, 3) := by decide +kernel
theorem dX1_pair_95 : decode cX1_pair 95 = .ok (.iload_n 1, 1) := by decide +kernel
theorem dX1_pair_96 : decode cX1_pair 96 = .ok (.iconst 2, 1) := by decide +kernel
theorem dX1_pair_97 : decode cX1_pair 97 = .ok (.iadd, 1) := by decide +kernel
theorem dX1_pair_98 : decode cX1_pair 98 = .ok (.iaload, 1) := by decide +kernel
theorem dX1_pair_99 : decode cX1_pair 99 = .ok (.iadd, 1) := by decide +kernel
theorem dX1_pair_100 : decode cX1_pair 100 = .ok (.aload_n 0, 1) := by decide +kernel
theorem dX1_pair_101 : decode cX1_pair 101 = .ok (.getfield 36, 3) := by decide +kernel
theorem dX1_pair_104 : decode cX1_pair 104 = .ok (.iload_n 1, 1) := by decide +kernel
theorem dX1_pair_105 : decode cX1_pair 105 = .ok (.iaload, 1) := by decide +kernel
theorem dX1_pair_106 : decode cX1_pair 106 = .ok (.if_icmp .eq 6, 3) := by decide +kernel
theorem dX1_pair_109 : decode cX1_pair 109 = .ok (.goto 20, 3) := by decide +kernel
theorem dX1_pair_112 : decode cX1_pair 112 = .ok (.aload_n 0, 1) := by decide +kernel
theorem dX1_pair_113 : decode cX1_pair 113 = .ok (.getfield 39, 3) := by decide +kernel
theorem dX1_pair_116 : decode cX1_pair 116 = .ok (.iload_n 1, 1) := by decide +kernel
theorem dX1_pair_117 : decode cX1_pair 117 = .ok (.iload_n 2, 1) := by decide +kernel
theorem dX1_pair_118 : decode cX1_pair 118 = .ok (.iastore, 1) := by decide +kernel
theorem dX1_pair_119 : decode cX1_pair 119 = .ok (.aload_n 0, 1) := by decide +kernel
theorem dX1_pair_120 : decode cX1_pair 120 = .ok (.getfield 39, 3) := by decide +kernel
theorem dX1_pair_123 : decode cX1_pair 123 = .ok (.iload_n 1, 1) := by decide +kernel
theorem dX1_pair_124 : decode cX1_pair 124 = .ok (.iconst 1, 1) := by decide +kernel
theorem dX1_pair_125 : decode cX1_pair 125 = .ok (.iadd, 1) := by decide +kernel
theorem dX1_pair_126 : decode cX1_pair 126 = .ok (.iload_n 3, 1) := by decide +kernel
theorem dX1_pair_127 : decode cX1_pair 127 = .ok (.iastore, 1) := by decide +kernel
theorem dX1_pair_128 : decode cX1_pair 128 = .ok (.return_, 1) := by decide +kernel
theorem dX1_pair_129 : decode cX1_pair 129 = .ok (.iinc 3 1, 3) := by decide +kernel
theorem dX1_pair_132 : decode cX1_pair 132 = .ok (.goto (-99), 3) := by decide +kernel
theorem dX1_pair_135 : decode cX1_pair 135 = .ok (.iinc 2 1, 3) := by decide +kernel
theorem dX1_pair_138 : decode cX1_pair 138 = .ok (.goto (-136), 3) := by decide +kernel
theorem dX1_pair_141 : decode cX1_pair 141 = .ok (.return_, 1) := by decide +kernel
set_option maxRecDepth 20000 in
theorem ggX1_choose_X1_reckon : GoodIn wsX1_choose wsX1_reckon := goodIn_r _ [8, 9, 1, 10, 11, 12, 13, 14, 15, 16, 7, 17, 18, 19, 20, 21, 22, 23, 24, 25, 26, 27, 28, 29, 30, 31, 32, 33, 34, 35, 44, 45, 46, 47, 48, 49, 50, 51, 52, 53, 54, 55, 56, 57, 58, 59] (by decide +kernel) (by decide +kernel)
set_option maxRecDepth 20000 in
theorem gX1_choose_X1_reckon : GoodIn wsX1_choose (wsV RX1 89 RX1 yX1_reckon wsX1_reckon) := goodIn_app (goodIn_of _ (by decide +kernel)) ggX1_choose_X1_reckon
set_option maxRecDepth 20000 in
theorem ggX1_choose_X1_single : GoodIn wsX1_choose wsX1_single := goodIn_r _ [39, 19, 20, 21, 22, 9, 23, 24, 7, 25, 26, 27, 28, 29, 30, 44, 45, 46, 47, 48, 49, 50, 51, 52, 53, 54, 55, 56, 57, 58, 59] (by decide +kernel) (by decide +kernel)
set_option maxRecDepth 20000 in
theorem gX1_choose_X1_single : GoodIn wsX1_choose (wsV RX1 93 RX1 yX1_single wsX1_single) := goodIn_app (goodIn_of _ (by decide +kernel)) ggX1_choose_X1_single
set_option maxRecDepth 20000 in
theorem ggX1_choose_X1_pair : GoodIn wsX1_choose wsX1_pair := goodIn_r _ [43, 19, 20, 21, 35, 22, 9, 3, 23, 24, 7, 25, 26, 27, 28, 29, 30, 44, 45, 46, 47, 48, 49, 50, 51, 52, 53, 54, 55, 56, 57, 58, 59] (by decide +kernel) (by decide +kernel)
set_option maxRecDepth 20000 in
theorem gX1_choose_X1_pair : GoodIn wsX1_choose (wsV RX1 96 RX1 yX1_pair wsX1_pair) := goodIn_app (goodIn_of _ (by decide +kernel)) ggX1_choose_X1_pair
theorem dX1_choose_0 : decode cX1_choose 0 = .ok (.aload_n 0, 1) := by decide +kernel
theorem dX1_choose_1 : decode cX1_choose 1 = .ok (.invokevirtual 89, 3) := by decide +kernel
theorem dX1_choose_4 : decode cX1_choose 4 = .ok (.pop, 1) := by decide +kernel
theorem dX1_choose_5 : decode cX1_choose 5 = .ok (.iconst 0, 1) := by decide +kernel
theorem dX1_choose_6 : decode cX1_choose 6 = .ok (.istore_n 1, 1) := by decide +kernel
theorem dX1_choose_7 : decode cX1_choose 7 = .ok (.iload_n 1, 1) := by decide +kernel
theorem dX1_choose_8 : decode cX1_choose 8 = .ok (.aload_n 0, 1) := by decide +kernel
theorem dX1_choose_9 : decode cX1_choose 9 = .ok (.getfield 55, 3) := by decide +kernel
theorem dX1_choose_12 : decode cX1_choose 12 = .ok (.if_icmp .ge 63, 3) := by decide +kernel
theorem dX1_choose_15 : decode cX1_choose 15 = .ok (.aload_n 0, 1) := by decide +kernel
theorem dX1_choose_16 : decode cX1_choose 16 = .ok (.iload_n 1, 1) := by decide +kernel
theorem dX1_choose_17 : decode cX1_choose 17 = .ok (.invokevirtual 93, 3) := by decide +kernel
theorem dX1_choose_20 : decode cX1_choose 20 = .ok (.istore_n 2, 1) := by decide +kernel
theorem dX1_choose_21 : decode cX1_choose 21 = .ok (.aload_n 0, 1) := by decide +kernel
theorem dX1_choose_22 : decode cX1_choose 22 = .ok (.getfield 42, 3) := by decide +kernel
theorem dX1_choose_25 : decode cX1_choose 25 = .ok (.iload_n 1, 1) := by decide +kernel
theorem dX1_choose_26 : decode cX1_choose 26 = .ok (.iload_n 2, 1) := by decide +kernel
theorem dX1_choose_27 : decode cX1_choose 27 = .ok (.iconst (-1), 1) := by decide +kernel
theorem dX1_choose_28 : decode cX1_choose 28 = .ok (.if_icmp .ne 7, 3) := by decide +kernel
theorem dX1_choose_31 : decode cX1_choose 31 = .ok (.iconst 1, 1) := by decide +kernel
theorem dX1_choose_32 : decode cX1_choose 32 = .ok (.goto 4, 3) := by decide +kernel
theorem dX1_choose_35 : decode cX1_choose 35 = .ok (.iconst 0, 1) := by decide +kernel
theorem dX1_choose_36 : decode cX1_choose 36 = .ok (.bastore, 1) := by decide +kernel
theorem dX1_choose_37 : decode cX1_choose 37 = .ok (.iload_n 2, 1) := by decide +kernel
theorem dX1_choose_38 : decode cX1_choose 38 = .ok (.iconst (-1), 1) := by decide +kernel
theorem dX1_choose_39 : decode cX1_choose 39 = .ok (.if_icmp .eq 16, 3) := by decide +kernel
theorem dX1_choose_42 : decode cX1_choose 42 = .ok (.aload_n 0, 1) := by decide +kernel
theorem dX1_choose_43 : decode cX1_choose 43 = .ok (.getfield 39, 3) := by decide +kernel
theorem dX1_choose_46 : decode cX1_choose 46 = .ok (.iload_n 1, 1) := by decide +kernel
theorem dX1_choose_47 : decode cX1_choose 47 = .ok (.iload_n 2, 1) := by decide +kernel
theorem dX1_choose_48 : decode cX1_choose 48 = .ok (.iastore, 1) := by decide +kernel
theorem dX1_choose_49 : decode cX1_choose 49 = .ok (.iinc 1 1, 3) := by decide +kernel
theorem dX1_choose_52 : decode cX1_choose 52 = .ok (.goto 20, 3) := by decide +kernel
theorem dX1_choose_55 : decode cX1_choose 55 = .ok (.aload_n 0, 1) := by decide +kernel
theorem dX1_choose_56 : decode cX1_choose 56 = .ok (.iload_n 1, 1) := by decide +kernel
theorem dX1_choose_57 : decode cX1_choose 57 = .ok (.invokevirtual 96, 3) := by decide +kernel
theorem dX1_choose_60 : decode cX1_choose 60 = .ok (.aload_n 0, 1) := by decide +kernel
theorem dX1_choose_61 : decode cX1_choose 61 = .ok (.getfield 42, 3) := by decide +kernel
theorem dX1_choose_64 : decode cX1_choose 64 = .ok (.iload_n 1, 1) := by decide +kernel
theorem dX1_choose_65 : decode cX1_choose 65 = .ok (.iconst 1, 1) := by decide +kernel
theorem dX1_choose_66 : decode cX1_choose 66 = .ok (.iadd, 1) := by decide +kernel
theorem dX1_choose_67 : decode cX1_choose 67 = .ok (.iconst 0, 1) := by decide +kernel
theorem dX1_choose_68 : decode cX1_choose 68 = .ok (.bastore, 1) := by decide +kernel
theorem dX1_choose_69 : decode cX1_choose 69 = .ok (.iinc 1 2, 3) := by decide +kernel
theorem dX1_choose_72 : decode cX1_choose 72 = .ok (.goto (-65), 3) := by decide +kernel
theorem dX1_choose_75 : decode cX1_choose 75 = .ok (.return_, 1) := by decide +kernel
set_option maxRecDepth 20000 in
theorem ggX1_addWord_X1_isIn : GoodIn wsX1_addWord wsX1_isIn := goodIn_r _ [8] (by decide +kernel) (by decide +kernel)
set_option maxRecDepth 20000 in
theorem gX1_addWord_X1_isIn : GoodIn wsX1_addWord (va_wsS RX1 51 yX1_isIn wsX1_isIn) := goodIn_app (goodIn_of _ (by decide +kernel)) ggX1_addWord_X1_isIn
set_option maxRecDepth 20000 in
theorem ggX1_addWord_X1_fail : GoodIn wsX1_addWord wsX1_fail := goodIn_r _ [12, 1, 13, 14, 15, 16, 17, 18, 19, 20, 21, 22, 23, 24, 25, 26, 27, 28] (by decide +kernel) (by decide +kernel)
set_option maxRecDepth 20000 in
theorem gX1_addWord_X1_fail : GoodIn wsX1_addWord (wsV RX1 100 RX1 yX1_fail wsX1_fail) := goodIn_app (goodIn_of _ (by decide +kernel)) ggX1_addWord_X1_fail
theorem dX1_addWord_0 : decode cX1_addWord 0 = .ok (.aload_n 0, 1) := by decide +kernel
theorem dX1_addWord_1 : decode cX1_addWord 1 = .ok (.iconst 0, 1) := by decide +kernel
theorem dX1_addWord_2 : decode cX1_addWord 2 = .ok (.putfield 45, 3) := by decide +kernel
theorem dX1_addWord_5 : decode cX1_addWord 5 = .ok (.iload_n 1, 1) := by decide +kernel
theorem dX1_addWord_6 : decode cX1_addWord 6 = .ok (.iconst 1, 1) := by decide +kernel
theorem dX1_addWord_7 : decode cX1_addWord 7 = .ok (.bipush 30, 2) := by decide +kernel
theorem dX1_addWord_9 : decode cX1_addWord 9 = .ok (.invokestatic 51, 3) := by decide +kernel
theorem dX1_addWord_12 : decode cX1_addWord 12 = .ok (.ifCond .ne 9, 3) := by decide +kernel
theorem dX1_addWord_15 : decode cX1_addWord 15 = .ok (.aload_n 0, 1) := by decide +kernel
theorem dX1_addWord_16 : decode cX1_addWord 16 = .ok (.iconst 1, 1) := by decide +kernel
theorem dX1_addWord_17 : decode cX1_addWord 17 = .ok (.invokevirtual 100, 3) := by decide +kernel
theorem dX1_addWord_20 : decode cX1_addWord 20 = .ok (.ireturn, 1) := by decide +kernel
theorem dX1_addWord_21 : decode cX1_addWord 21 = .ok (.aload_n 0, 1) := by decide +kernel
theorem dX1_addWord_22 : decode cX1_addWord 22 = .ok (.getfield 48, 3) := by decide +kernel
theorem dX1_addWord_25 : decode cX1_addWord 25 = .ok (.bipush 12, 2) := by decide +kernel
theorem dX1_addWord_27 : decode cX1_addWord 27 = .ok (.if_icmp .ne 9, 3) := by decide +kernel
theorem dX1_addWord_30 : decode cX1_addWord 30 = .ok (.aload_n 0, 1) := by decide +kernel
theorem dX1_addWord_31 : decode cX1_addWord 31 = .ok (.iconst 2, 1) := by decide +kernel
theorem dX1_addWord_32 : decode cX1_addWord 32 = .ok (.invokevirtual 100, 3) := by decide +kernel
theorem dX1_addWord_35 : decode cX1_addWord 35 = .ok (.ireturn, 1) := by decide +kernel
theorem dX1_addWord_36 : decode cX1_addWord 36 = .ok (.aload_n 0, 1) := by decide +kernel
theorem dX1_addWord_37 : decode cX1_addWord 37 = .ok (.getfield 19, 3) := by decide +kernel
theorem dX1_addWord_40 : decode cX1_addWord 40 = .ok (.aload_n 0, 1) := by decide +kernel
theorem dX1_addWord_41 : decode cX1_addWord 41 = .ok (.getfield 48, 3) := by decide +kernel
theorem dX1_addWord_44 : decode cX1_addWord 44 = .ok (.iload_n 1, 1) := by decide +kernel
theorem dX1_addWord_45 : decode cX1_addWord 45 = .ok (.iastore, 1) := by decide +kernel
theorem dX1_addWord_46 : decode cX1_addWord 46 = .ok (.aload_n 0, 1) := by decide +kernel
theorem dX1_addWord_47 : decode cX1_addWord 47 = .ok (.getfield 23, 3) := by decide +kernel
theorem dX1_addWord_50 : decode cX1_addWord 50 = .ok (.aload_n 0, 1) := by decide +kernel
theorem dX1_addWord_51 : decode cX1_addWord 51 = .ok (.getfield 48, 3) := by decide +kernel
theorem dX1_addWord_54 : decode cX1_addWord 54 = .ok (.iconst 1, 1) := by decide +kernel
theorem dX1_addWord_55 : decode cX1_addWord 55 = .ok (.aload_n 0, 1) := by decide +kernel
theorem dX1_addWord_56 : decode cX1_addWord 56 = .ok (.getfield 48, 3) := by decide +kernel
theorem dX1_addWord_59 : decode cX1_addWord 59 = .ok (.ishl, 1) := by decide +kernel
theorem dX1_addWord_60 : decode cX1_addWord 60 = .ok (.iastore, 1) := by decide +kernel
theorem dX1_addWord_61 : decode cX1_addWord 61 = .ok (.aload_n 0, 1) := by decide +kernel
theorem dX1_addWord_62 : decode cX1_addWord 62 = .ok (.dup, 1) := by decide +kernel
theorem dX1_addWord_63 : decode cX1_addWord 63 = .ok (.getfield 48, 3) := by decide +kernel
theorem dX1_addWord_66 : decode cX1_addWord 66 = .ok (.iconst 1, 1) := by decide +kernel
theorem dX1_addWord_67 : decode cX1_addWord 67 = .ok (.iadd, 1) := by decide +kernel
theorem dX1_addWord_68 : decode cX1_addWord 68 = .ok (.putfield 48, 3) := by decide +kernel
theorem dX1_addWord_71 : decode cX1_addWord 71 = .ok (.aload_n 0, 1) := by decide +kernel
theorem dX1_addWord_72 : decode cX1_addWord 72 = .ok (.getfield 48, 3) := by decide +kernel
theorem dX1_addWord_75 : decode cX1_addWord 75 = .ok (.iconst 1, 1) := by decide +kernel
theorem dX1_addWord_76 : decode cX1_addWord 76 = .ok (.isub, 1) := by decide +kernel
theorem dX1_addWord_77 : decode cX1_addWord 77 = .ok (.ireturn, 1) := by decide +kernel
set_option maxRecDepth 20000 in
theorem ggX1_turnStandIn_X1_arePair : GoodIn wsX1_turnStandIn wsX1_arePair := goodIn_r _ [6, 7, 8, 9, 10, 5, 11, 12, 13, 14, 15, 23, 24, 25, 26, 27, 28, 29, 30, 31, 32, 33, 34, 35, 36, 37, 38] (by decide +kernel) (by decide +kernel)
set_option maxRecDepth 20000 in
theorem gX1_turnStandIn_X1_arePair : GoodIn wsX1_turnStandIn (wsV RX1 103 RX1 yX1_arePair wsX1_arePair) := goodIn_app (goodIn_of _ (by decide +kernel)) ggX1_turnStandIn_X1_arePair
set_option maxRecDepth 20000 in
theorem ggX1_turnStandIn_X1_failed : GoodIn wsX1_turnStandIn wsX1_failed := goodIn_r _ [19, 7, 23, 24, 25, 26, 27, 28, 29, 30, 31, 32, 33, 34, 35, 36, 37, 38] (by decide +kernel) (by decide +kernel)
set_option maxRecDepth 20000 in
theorem gX1_turnStandIn_X1_failed : GoodIn wsX1_turnStandIn (wsV RX1 106 RX1 yX1_failed wsX1_failed) := goodIn_app (goodIn_of _ (by decide +kernel)) ggX1_turnStandIn_X1_failed
set_option maxRecDepth 20000 in
theorem ggX1_turnStandIn_X1_has : GoodIn wsX1_turnStandIn wsX1_has := goodIn_r _ [22] (by decide +kernel) (by decide +kernel)
set_option maxRecDepth 20000 in
theorem gX1_turnStandIn_X1_has : GoodIn wsX1_turnStandIn (va_wsS RX1 76 yX1_has wsX1_has) := goodIn_app (goodIn_of _ (by decide +kernel)) ggX1_turnStandIn_X1_has
theorem dX1_turnStandIn_0 : decode cX1_turnStandIn 0 = .ok (.aload_n 0, 1) := by decide +kernel
theorem dX1_turnStandIn_1 : decode cX1_turnStandIn 1 = .ok (.iload_n 1, 1) := by decide +kernel
theorem dX1_turnStandIn_2 : decode cX1_turnStandIn 2 = .ok (.iload_n 2, 1) := by decide +kernel
theorem dX1_turnStandIn_3 : decode cX1_turnStandIn 3 = .ok (.invokevirtual 103, 3) := by decide +kernel
theorem dX1_turnStandIn_6 : decode cX1_turnStandIn 6 = .ok (.ifCond .ne 5, 3) := by decide +kernel
theorem dX1_turnStandIn_9 : decode cX1_turnStandIn 9 = .ok (.iconst 0, 1) := by decide +kernel
theorem dX1_turnStandIn_10 : decode cX1_turnStandIn 10 = .ok (.ireturn, 1) := by decide +kernel
theorem dX1_turnStandIn_11 : decode cX1_turnStandIn 11 = .ok (.iload_n 1, 1) := by decide +kernel
theorem dX1_turnStandIn_12 : decode cX1_turnStandIn 12 = .ok (.iload_n 2, 1) := by decide +kernel
theorem dX1_turnStandIn_13 : decode cX1_turnStandIn 13 = .ok (.if_icmp .ne 9, 3) := by decide +kernel
theorem dX1_turnStandIn_16 : decode cX1_turnStandIn 16 = .ok (.aload_n 0, 1) := by decide +kernel
theorem dX1_turnStandIn_17 : decode cX1_turnStandIn 17 = .ok (.iconst 2, 1) := by decide +kernel
theorem dX1_turnStandIn_18 : decode cX1_turnStandIn 18 = .ok (.invokevirtual 106, 3) := by decide +kernel
theorem dX1_turnStandIn_21 : decode cX1_turnStandIn 21 = .ok (.ireturn, 1) := by decide +kernel
theorem dX1_turnStandIn_22 : decode cX1_turnStandIn 22 = .ok (.aload_n 0, 1) := by decide +kernel
theorem dX1_turnStandIn_23 : decode cX1_turnStandIn 23 = .ok (.getfield 23, 3) := by decide +kernel
theorem dX1_turnStandIn_26 : decode cX1_turnStandIn 26 = .ok (.iload_n 1, 1) := by decide +kernel
theorem dX1_turnStandIn_27 : decode cX1_turnStandIn 27 = .ok (.dup2, 1) := by decide +kernel
theorem dX1_turnStandIn_28 : decode cX1_turnStandIn 28 = .ok (.iaload, 1) := by decide +kernel
theorem dX1_turnStandIn_29 : decode cX1_turnStandIn 29 = .ok (.iconst 1, 1) := by decide +kernel
theorem dX1_turnStandIn_30 : decode cX1_turnStandIn 30 = .ok (.iload_n 2, 1) := by decide +kernel
theorem dX1_turnStandIn_31 : decode cX1_turnStandIn 31 = .ok (.ishl, 1) := by decide +kernel
theorem dX1_turnStandIn_32 : decode cX1_turnStandIn 32 = .ok (.ixor, 1) := by decide +kernel
theorem dX1_turnStandIn_33 : decode cX1_turnStandIn 33 = .ok (.iastore, 1) := by decide +kernel
theorem dX1_turnStandIn_34 : decode cX1_turnStandIn 34 = .ok (.aload_n 0, 1) := by decide +kernel
theorem dX1_turnStandIn_35 : decode cX1_turnStandIn 35 = .ok (.getfield 23, 3) := by decide +kernel
theorem dX1_turnStandIn_38 : decode cX1_turnStandIn 38 = .ok (.iload_n 1, 1) := by decide +kernel
theorem dX1_turnStandIn_39 : decode cX1_turnStandIn 39 = .ok (.iaload, 1) := by decide +kernel
theorem dX1_turnStandIn_40 : decode cX1_turnStandIn 40 = .ok (.iload_n 2, 1) := by decide +kernel
theorem dX1_turnStandIn_41 : decode cX1_turnStandIn 41 = .ok (.invokestatic 76, 3) := by decide +kernel
theorem dX1_turnStandIn_44 : decode cX1_turnStandIn 44 = .ok (.ireturn, 1) := by decide +kernel
set_option maxRecDepth 20000 in
theorem ggX1_turnJoin_X1_arePair : GoodIn wsX1_turnJoin wsX1_arePair := goodIn_r _ [6, 7, 8, 9, 10, 5, 11, 12, 13, 14, 15, 19, 20, 21, 22, 23, 24, 25, 26, 27, 28, 29, 30, 31, 32, 33, 34] (by decide +kernel) (by decide +kernel)
set_option maxRecDepth 20000 in
theorem gX1_turnJoin_X1_arePair : GoodIn wsX1_turnJoin (wsV RX1 103 RX1 yX1_arePair wsX1_arePair) := goodIn_app (goodIn_of _ (by decide +kernel)) ggX1_turnJoin_X1_arePair
set_option maxRecDepth 20000 in
theorem ggX1_turnJoin_X1_has : GoodIn wsX1_turnJoin wsX1_has := goodIn_r _ [18] (by decide +kernel) (by decide +kernel)
set_option maxRecDepth 20000 in
theorem gX1_turnJoin_X1_has : GoodIn wsX1_turnJoin (va_wsS RX1 76 yX1_has wsX1_has) := goodIn_app (goodIn_of _ (by decide +kernel)) ggX1_turnJoin_X1_has
theorem dX1_turnJoin_0 : decode cX1_turnJoin 0 = .ok (.aload_n 0, 1) := by decide +kernel
theorem dX1_turnJoin_1 : decode cX1_turnJoin 1 = .ok (.iload_n 1, 1) := by decide +kernel
theorem dX1_turnJoin_2 : decode cX1_turnJoin 2 = .ok (.iload_n 2, 1) := by decide +kernel
theorem dX1_turnJoin_3 : decode cX1_turnJoin 3 = .ok (.invokevirtual 103, 3) := by decide +kernel
theorem dX1_turnJoin_6 : decode cX1_turnJoin 6 = .ok (.ifCond .ne 5, 3) := by decide +kernel
theorem dX1_turnJoin_9 : decode cX1_turnJoin 9 = .ok (.iconst 0, 1) := by decide +kernel
theorem dX1_turnJoin_10 : decode cX1_turnJoin 10 = .ok (.ireturn, 1) := by decide +kernel
theorem dX1_turnJoin_11 : decode cX1_turnJoin 11 = .ok (.aload_n 0, 1) := by decide +kernel
theorem dX1_turnJoin_12 : decode cX1_turnJoin 12 = .ok (.getfield 26, 3) := by decide +kernel
theorem dX1_turnJoin_15 : decode cX1_turnJoin 15 = .ok (.iload_n 1, 1) := by decide +kernel
theorem dX1_turnJoin_16 : decode cX1_turnJoin 16 = .ok (.dup2, 1) := by decide +kernel
theorem dX1_turnJoin_17 : decode cX1_turnJoin 17 = .ok (.iaload, 1) := by decide +kernel
theorem dX1_turnJoin_18 : decode cX1_turnJoin 18 = .ok (.iconst 1, 1) := by decide +kernel
theorem dX1_turnJoin_19 : decode cX1_turnJoin 19 = .ok (.iload_n 2, 1) := by decide +kernel
theorem dX1_turnJoin_20 : decode cX1_turnJoin 20 = .ok (.ishl, 1) := by decide +kernel
theorem dX1_turnJoin_21 : decode cX1_turnJoin 21 = .ok (.ixor, 1) := by decide +kernel
theorem dX1_turnJoin_22 : decode cX1_turnJoin 22 = .ok (.iastore, 1) := by decide +kernel
theorem dX1_turnJoin_23 : decode cX1_turnJoin 23 = .ok (.aload_n 0, 1) := by decide +kernel
theorem dX1_turnJoin_24 : decode cX1_turnJoin 24 = .ok (.getfield 26, 3) := by decide +kernel
theorem dX1_turnJoin_27 : decode cX1_turnJoin 27 = .ok (.iload_n 1, 1) := by decide +kernel
theorem dX1_turnJoin_28 : decode cX1_turnJoin 28 = .ok (.iaload, 1) := by decide +kernel
theorem dX1_turnJoin_29 : decode cX1_turnJoin 29 = .ok (.iload_n 2, 1) := by decide +kernel
theorem dX1_turnJoin_30 : decode cX1_turnJoin 30 = .ok (.invokestatic 76, 3) := by decide +kernel
theorem dX1_turnJoin_33 : decode cX1_turnJoin 33 = .ok (.ireturn, 1) := by decide +kernel
set_option maxRecDepth 20000 in
theorem ggX1_setLimit_X1_isIn : GoodIn wsX1_setLimit wsX1_isIn := goodIn_r _ [6] (by decide +kernel) (by decide +kernel)
set_option maxRecDepth 20000 in
theorem gX1_setLimit_X1_isIn : GoodIn wsX1_setLimit (va_wsS RX1 51 yX1_isIn wsX1_isIn) := goodIn_app (goodIn_of _ (by decide +kernel)) ggX1_setLimit_X1_isIn
set_option maxRecDepth 20000 in
theorem ggX1_setLimit_X1_fail : GoodIn wsX1_setLimit wsX1_fail := goodIn_r _ [10, 1, 11, 12, 13, 14, 15, 16, 17, 18, 19, 20, 21, 22, 23, 24, 25, 26] (by decide +kernel) (by decide +kernel)
set_option maxRecDepth 20000 in
theorem gX1_setLimit_X1_fail : GoodIn wsX1_setLimit (wsV RX1 100 RX1 yX1_fail wsX1_fail) := goodIn_app (goodIn_of _ (by decide +kernel)) ggX1_setLimit_X1_fail
theorem dX1_setLimit_0 : decode cX1_setLimit 0 = .ok (.aload_n 0, 1) := by decide +kernel
theorem dX1_setLimit_1 : decode cX1_setLimit 1 = .ok (.iconst 0, 1) := by decide +kernel
theorem dX1_setLimit_2 : decode cX1_setLimit 2 = .ok (.putfield 45, 3) := by decide +kernel
theorem dX1_setLimit_5 : decode cX1_setLimit 5 = .ok (.iload_n 1, 1) := by decide +kernel
theorem dX1_setLimit_6 : decode cX1_setLimit 6 = .ok (.iconst 3, 1) := by decide +kernel
theorem dX1_setLimit_7 : decode cX1_setLimit 7 = .ok (.bipush 15, 2) := by decide +kernel
theorem dX1_setLimit_9 : decode cX1_setLimit 9 = .ok (.invokestatic 51, 3) := by decide +kernel
theorem dX1_setLimit_12 : decode cX1_setLimit 12 = .ok (.ifCond .ne 9, 3) := by decide +kernel
theorem dX1_setLimit_15 : decode cX1_setLimit 15 = .ok (.aload_n 0, 1) := by decide +kernel
theorem dX1_setLimit_16 : decode cX1_setLimit 16 = .ok (.iconst 1, 1) := by decide +kernel
theorem dX1_setLimit_17 : decode cX1_setLimit 17 = .ok (.invokevirtual 100, 3) := by decide +kernel
theorem dX1_setLimit_20 : decode cX1_setLimit 20 = .ok (.ireturn, 1) := by decide +kernel
theorem dX1_setLimit_21 : decode cX1_setLimit 21 = .ok (.aload_n 0, 1) := by decide +kernel
theorem dX1_setLimit_22 : decode cX1_setLimit 22 = .ok (.getfield 7, 3) := by decide +kernel
theorem dX1_setLimit_25 : decode cX1_setLimit 25 = .ok (.istore_n 2, 1) := by decide +kernel
theorem dX1_setLimit_26 : decode cX1_setLimit 26 = .ok (.aload_n 0, 1) := by decide +kernel
theorem dX1_setLimit_27 : decode cX1_setLimit 27 = .ok (.iload_n 1, 1) := by decide +kernel
theorem dX1_setLimit_28 : decode cX1_setLimit 28 = .ok (.putfield 7, 3) := by decide +kernel
theorem dX1_setLimit_31 : decode cX1_setLimit 31 = .ok (.iload_n 2, 1) := by decide +kernel
theorem dX1_setLimit_32 : decode cX1_setLimit 32 = .ok (.ireturn, 1) := by decide +kernel
set_option maxRecDepth 20000 in
theorem ggX1_setLeastCount_X1_isIn : GoodIn wsX1_setLeastCount wsX1_isIn := goodIn_r _ [6] (by decide +kernel) (by decide +kernel)
set_option maxRecDepth 20000 in
theorem gX1_setLeastCount_X1_isIn : GoodIn wsX1_setLeastCount (va_wsS RX1 51 yX1_isIn wsX1_isIn) := goodIn_app (goodIn_of _ (by decide +kernel)) ggX1_setLeastCount_X1_isIn
set_option maxRecDepth 20000 in
theorem ggX1_setLeastCount_X1_fail : GoodIn wsX1_setLeastCount wsX1_fail := goodIn_r _ [10, 1, 11, 12, 13, 14, 15, 16, 17, 18, 19, 20, 21, 22, 23, 24, 25, 26] (by decide +kernel) (by decide +kernel)
set_option maxRecDepth 20000 in
theorem gX1_setLeastCount_X1_fail : GoodIn wsX1_setLeastCount (wsV RX1 100 RX1 yX1_fail wsX1_fail) := goodIn_app (goodIn_of _ (by decide +kernel)) ggX1_setLeastCount_X1_fail
theorem dX1_setLeastCount_0 : decode cX1_setLeastCount 0 = .ok (.aload_n 0, 1) := by decide +kernel
theorem dX1_setLeastCount_1 : decode cX1_setLeastCount 1 = .ok (.iconst 0, 1) := by decide +kernel
theorem dX1_setLeastCount_2 : decode cX1_setLeastCount 2 = .ok (.putfield 45, 3) := by decide +kernel
theorem dX1_setLeastCount_5 : decode cX1_setLeastCount 5 = .ok (.iload_n 1, 1) := by decide +kernel
theorem dX1_setLeastCount_6 : decode cX1_setLeastCount 6 = .ok (.iconst 0, 1) := by decide +kernel
theorem dX1_setLeastCount_7 : decode cX1_setLeastCount 7 = .ok (.bipush 20, 2) := by decide +kernel
theorem dX1_setLeastCount_9 : decode cX1_setLeastCount 9 = .ok (.invokestatic 51, 3) := by decide +kernel
theorem dX1_setLeastCount_12 : decode cX1_setLeastCount 12 = .ok (.ifCond .ne 9, 3) := by decide +kernel
theorem dX1_setLeastCount_15 : decode cX1_setLeastCount 15 = .ok (.aload_n 0, 1) := by decide +kernel
theorem dX1_setLeastCount_16 : decode cX1_setLeastCount 16 = .ok (.iconst 1, 1) := by decide +kernel
theorem dX1_setLeastCount_17 : decode cX1_setLeastCount 17 = .ok (.invokevirtual 100, 3) := by decide +kernel
theorem dX1_setLeastCount_20 : decode cX1_setLeastCount 20 = .ok (.ireturn, 1) := by decide +kernel
theorem dX1_setLeastCount_21 : decode cX1_setLeastCount 21 = .ok (.aload_n 0, 1) := by decide +kernel
theorem dX1_setLeastCount_22 : decode cX1_setLeastCount 22 = .ok (.getfield 13, 3) := by decide +kernel
theorem dX1_setLeastCount_25 : decode cX1_setLeastCount 25 = .ok (.istore_n 2, 1) := by decide +kernel
theorem dX1_setLeastCount_26 : decode cX1_setLeastCount 26 = .ok (.aload_n 0, 1) := by decide +kernel
theorem dX1_setLeastCount_27 : decode cX1_setLeastCount 27 = .ok (.iload_n 1, 1) := by decide +kernel
theorem dX1_setLeastCount_28 : decode cX1_setLeastCount 28 = .ok (.putfield 13, 3) := by decide +kernel
theorem dX1_setLeastCount_31 : decode cX1_setLeastCount 31 = .ok (.iload_n 2, 1) := by decide +kernel
theorem dX1_setLeastCount_32 : decode cX1_setLeastCount 32 = .ok (.ireturn, 1) := by decide +kernel
set_option maxRecDepth 20000 in
theorem ggX1_setCoins_X1_isIn : GoodIn wsX1_setCoins wsX1_isIn := goodIn_r _ [6] (by decide +kernel) (by decide +kernel)
set_option maxRecDepth 20000 in
theorem gX1_setCoins_X1_isIn : GoodIn wsX1_setCoins (va_wsS RX1 51 yX1_isIn wsX1_isIn) := goodIn_app (goodIn_of _ (by decide +kernel)) ggX1_setCoins_X1_isIn
set_option maxRecDepth 20000 in
theorem ggX1_setCoins_X1_fail : GoodIn wsX1_setCoins wsX1_fail := goodIn_r _ [10, 1, 11, 12, 13, 14, 15, 16, 17, 18, 19, 20, 21, 22, 23, 24, 25, 26] (by decide +kernel) (by decide +kernel)
set_option maxRecDepth 20000 in
theorem gX1_setCoins_X1_fail : GoodIn wsX1_setCoins (wsV RX1 100 RX1 yX1_fail wsX1_fail) := goodIn_app (goodIn_of _ (by decide +kernel)) ggX1_setCoins_X1_fail
theorem dX1_setCoins_0 : decode cX1_setCoins 0 = .ok (.aload_n 0, 1) := by decide +kernel
theorem dX1_setCoins_1 : decode cX1_setCoins 1 = .ok (.iconst 0, 1) := by decide +kernel
theorem dX1_setCoins_2 : decode cX1_setCoins 2 = .ok (.putfield 45, 3) := by decide +kernel
theorem dX1_setCoins_5 : decode cX1_setCoins 5 = .ok (.iload_n 1, 1) := by decide +kernel
theorem dX1_setCoins_6 : decode cX1_setCoins 6 = .ok (.iconst 1, 1) := by decide +kernel
theorem dX1_setCoins_7 : decode cX1_setCoins 7 = .ok (.bipush 50, 2) := by decide +kernel
theorem dX1_setCoins_9 : decode cX1_setCoins 9 = .ok (.invokestatic 51, 3) := by decide +kernel
theorem dX1_setCoins_12 : decode cX1_setCoins 12 = .ok (.ifCond .ne 9, 3) := by decide +kernel
theorem dX1_setCoins_15 : decode cX1_setCoins 15 = .ok (.aload_n 0, 1) := by decide +kernel
theorem dX1_setCoins_16 : decode cX1_setCoins 16 = .ok (.iconst 1, 1) := by decide +kernel
theorem dX1_setCoins_17 : decode cX1_setCoins 17 = .ok (.invokevirtual 100, 3) := by decide +kernel
theorem dX1_setCoins_20 : decode cX1_setCoins 20 = .ok (.ireturn, 1) := by decide +kernel
theorem dX1_setCoins_21 : decode cX1_setCoins 21 = .ok (.aload_n 0, 1) := by decide +kernel
theorem dX1_setCoins_22 : decode cX1_setCoins 22 = .ok (.getfield 16, 3) := by decide +kernel
theorem dX1_setCoins_25 : decode cX1_setCoins 25 = .ok (.istore_n 2, 1) := by decide +kernel
theorem dX1_setCoins_26 : decode cX1_setCoins 26 = .ok (.aload_n 0, 1) := by decide +kernel
theorem dX1_setCoins_27 : decode cX1_setCoins 27 = .ok (.iload_n 1, 1) := by decide +kernel
theorem dX1_setCoins_28 : decode cX1_setCoins 28 = .ok (.putfield 16, 3) := by decide +kernel
theorem dX1_setCoins_31 : decode cX1_setCoins 31 = .ok (.iload_n 2, 1) := by decide +kernel
theorem dX1_setCoins_32 : decode cX1_setCoins 32 = .ok (.ireturn, 1) := by decide +kernel
set_option maxRecDepth 20000 in
theorem ggX1_write_X1_isWord : GoodIn wsX1_write wsX1_isWord := goodIn_r _ [9, 10, 11, 12, 8, 13, 18, 19, 20, 21, 22, 23, 24, 25, 26, 27, 28, 29, 30, 31, 32, 33] (by decide +kernel) (by decide +kernel)
set_option maxRecDepth 20000 in
theorem gX1_write_X1_isWord : GoodIn wsX1_write (wsV RX1 58 RX1 yX1_isWord wsX1_isWord) := goodIn_app (goodIn_of _ (by decide +kernel)) ggX1_write_X1_isWord
set_option maxRecDepth 20000 in
theorem ggX1_write_X1_fail : GoodIn wsX1_write wsX1_fail := goodIn_r _ [17, 1, 18, 19, 20, 21, 22, 23, 24, 25, 26, 27, 28, 29, 30, 31, 32, 33] (by decide +kernel) (by decide +kernel)
set_option maxRecDepth 20000 in
theorem gX1_write_X1_fail : GoodIn wsX1_write (wsV RX1 100 RX1 yX1_fail wsX1_fail) := goodIn_app (goodIn_of _ (by decide +kernel)) ggX1_write_X1_fail
theorem dX1_write_0 : decode cX1_write 0 = .ok (.aload_n 0, 1) := by decide +kernel
theorem dX1_write_1 : decode cX1_write 1 = .ok (.iconst 0, 1) := by decide +kernel
theorem dX1_write_2 : decode cX1_write 2 = .ok (.putfield 45, 3) := by decide +kernel
theorem dX1_write_5 : decode cX1_write 5 = .ok (.aload_n 0, 1) := by decide +kernel
theorem dX1_write_6 : decode cX1_write 6 = .ok (.iload_n 1, 1) := by decide +kernel
theorem dX1_write_7 : decode cX1_write 7 = .ok (.invokevirtual 58, 3) := by decide +kernel
theorem dX1_write_10 : decode cX1_write 10 = .ok (.ifCond .ne 9, 3) := by decide +kernel
theorem dX1_write_13 : decode cX1_write 13 = .ok (.aload_n 0, 1) := by decide +kernel
theorem dX1_write_14 : decode cX1_write 14 = .ok (.iconst 1, 1) := by decide +kernel
theorem dX1_write_15 : decode cX1_write 15 = .ok (.invokevirtual 100, 3) := by decide +kernel
theorem dX1_write_18 : decode cX1_write 18 = .ok (.ireturn, 1) := by decide +kernel
theorem dX1_write_19 : decode cX1_write 19 = .ok (.aload_n 0, 1) := by decide +kernel
theorem dX1_write_20 : decode cX1_write 20 = .ok (.getfield 55, 3) := by decide +kernel
theorem dX1_write_23 : decode cX1_write 23 = .ok (.bipush 16, 2) := by decide +kernel
theorem dX1_write_25 : decode cX1_write 25 = .ok (.if_icmp .ne 9, 3) := by decide +kernel
theorem dX1_write_28 : decode cX1_write 28 = .ok (.aload_n 0, 1) := by decide +kernel
theorem dX1_write_29 : decode cX1_write 29 = .ok (.iconst 2, 1) := by decide +kernel
theorem dX1_write_30 : decode cX1_write 30 = .ok (.invokevirtual 100, 3) := by decide +kernel
theorem dX1_write_33 : decode cX1_write 33 = .ok (.ireturn, 1) := by decide +kernel
theorem dX1_write_34 : decode cX1_write 34 = .ok (.aload_n 0, 1) := by decide +kernel
theorem dX1_write_35 : decode cX1_write 35 = .ok (.getfield 29, 3) := by decide +kernel
theorem dX1_write_38 : decode cX1_write 38 = .ok (.aload_n 0, 1) := by decide +kernel
theorem dX1_write_39 : decode cX1_write 39 = .ok (.getfield 55, 3) := by decide +kernel
theorem dX1_write_42 : decode cX1_write 42 = .ok (.iload_n 1, 1) := by decide +kernel
theorem dX1_write_43 : decode cX1_write 43 = .ok (.iastore, 1) := by decide +kernel
theorem dX1_write_44 : decode cX1_write 44 = .ok (.aload_n 0, 1) := by decide +kernel
theorem dX1_write_45 : decode cX1_write 45 = .ok (.getfield 32, 3) := by decide +kernel
theorem dX1_write_48 : decode cX1_write 48 = .ok (.aload_n 0, 1) := by decide +kernel
theorem dX1_write_49 : decode cX1_write 49 = .ok (.getfield 55, 3) := by decide +kernel
theorem dX1_write_52 : decode cX1_write 52 = .ok (.iconst 0, 1) := by decide +kernel
theorem dX1_write_53 : decode cX1_write 53 = .ok (.bastore, 1) := by decide +kernel
theorem dX1_write_54 : decode cX1_write 54 = .ok (.aload_n 0, 1) := by decide +kernel
theorem dX1_write_55 : decode cX1_write 55 = .ok (.dup, 1) := by decide +kernel
theorem dX1_write_56 : decode cX1_write 56 = .ok (.getfield 55, 3) := by decide +kernel
theorem dX1_write_59 : decode cX1_write 59 = .ok (.iconst 1, 1) := by decide +kernel
theorem dX1_write_60 : decode cX1_write 60 = .ok (.iadd, 1) := by decide +kernel
theorem dX1_write_61 : decode cX1_write 61 = .ok (.putfield 55, 3) := by decide +kernel
theorem dX1_write_64 : decode cX1_write 64 = .ok (.aload_n 0, 1) := by decide +kernel
theorem dX1_write_65 : decode cX1_write 65 = .ok (.getfield 55, 3) := by decide +kernel
theorem dX1_write_68 : decode cX1_write 68 = .ok (.ireturn, 1) := by decide +kernel
set_option maxRecDepth 20000 in
theorem ggX1_strike_X1_isPlace : GoodIn wsX1_strike wsX1_isPlace := goodIn_r _ [9, 3, 10, 11, 8, 12, 17, 18, 19, 20, 21, 22, 23, 24, 25, 26, 27, 28, 29, 30, 31, 32] (by decide +kernel) (by decide +kernel)
set_option maxRecDepth 20000 in
theorem gX1_strike_X1_isPlace : GoodIn wsX1_strike (wsV RX1 109 RX1 yX1_isPlace wsX1_isPlace) := goodIn_app (goodIn_of _ (by decide +kernel)) ggX1_strike_X1_isPlace
set_option maxRecDepth 20000 in
theorem ggX1_strike_X1_fail : GoodIn wsX1_strike wsX1_fail := goodIn_r _ [16, 1, 17, 18, 19, 20, 21, 22, 23, 24, 25, 26, 27, 28, 29, 30, 31, 32] (by decide +kernel) (by decide +kernel)
set_option maxRecDepth 20000 in
theorem gX1_strike_X1_fail : GoodIn wsX1_strike (wsV RX1 100 RX1 yX1_fail wsX1_fail) := goodIn_app (goodIn_of _ (by decide +kernel)) ggX1_strike_X1_fail
theorem dX1_strike_0 : decode cX1_strike 0 = .ok (.aload_n 0, 1) := by decide +kernel
theorem dX1_strike_1 : decode cX1_strike 1 = .ok (.iconst 0, 1) := by decide +kernel
theorem dX1_strike_2 : decode cX1_strike 2 = .ok (.putfield 45, 3) := by decide +kernel
theorem dX1_strike_5 : decode cX1_strike 5 = .ok (.aload_n 0, 1) := by decide +kernel
theorem dX1_strike_6 : decode cX1_strike 6 = .ok (.iload_n 1, 1) := by decide +kernel
theorem dX1_strike_7 : decode cX1_strike 7 = .ok (.invokevirtual 109, 3) := by decide +kernel
theorem dX1_strike_10 : decode cX1_strike 10 = .ok (.ifCond .ne 9, 3) := by decide +kernel
theorem dX1_strike_13 : decode cX1_strike 13 = .ok (.aload_n 0, 1) := by decide +kernel
theorem dX1_strike_14 : decode cX1_strike 14 = .ok (.iconst 1, 1) := by decide +kernel
theorem dX1_strike_15 : decode cX1_strike 15 = .ok (.invokevirtual 100, 3) := by decide +kernel
theorem dX1_strike_18 : decode cX1_strike 18 = .ok (.ireturn, 1) := by decide +kernel
theorem dX1_strike_19 : decode cX1_strike 19 = .ok (.iload_n 1, 1) := by decide +kernel
theorem dX1_strike_20 : decode cX1_strike 20 = .ok (.ifCond .le 12, 3) := by decide +kernel
theorem dX1_strike_23 : decode cX1_strike 23 = .ok (.aload_n 0, 1) := by decide +kernel
theorem dX1_strike_24 : decode cX1_strike 24 = .ok (.getfield 32, 3) := by decide +kernel
theorem dX1_strike_27 : decode cX1_strike 27 = .ok (.iload_n 1, 1) := by decide +kernel
theorem dX1_strike_28 : decode cX1_strike 28 = .ok (.iconst 1, 1) := by decide +kernel
theorem dX1_strike_29 : decode cX1_strike 29 = .ok (.isub, 1) := by decide +kernel
theorem dX1_strike_30 : decode cX1_strike 30 = .ok (.iconst 0, 1) := by decide +kernel
theorem dX1_strike_31 : decode cX1_strike 31 = .ok (.bastore, 1) := by decide +kernel
theorem dX1_strike_32 : decode cX1_strike 32 = .ok (.iload_n 1, 1) := by decide +kernel
theorem dX1_strike_33 : decode cX1_strike 33 = .ok (.istore_n 2, 1) := by decide +kernel
theorem dX1_strike_34 : decode cX1_strike 34 = .ok (.iload_n 2, 1) := by decide +kernel
theorem dX1_strike_35 : decode cX1_strike 35 = .ok (.aload_n 0, 1) := by decide +kernel
theorem dX1_strike_36 : decode cX1_strike 36 = .ok (.getfield 55, 3) := by decide +kernel
theorem dX1_strike_39 : decode cX1_strike 39 = .ok (.iconst 1, 1) := by decide +kernel
theorem dX1_strike_40 : decode cX1_strike 40 = .ok (.isub, 1) := by decide +kernel
theorem dX1_strike_41 : decode cX1_strike 41 = .ok (.if_icmp .ge 37, 3) := by decide +kernel
theorem dX1_strike_44 : decode cX1_strike 44 = .ok (.aload_n 0, 1) := by decide +kernel
theorem dX1_strike_45 : decode cX1_strike 45 = .ok (.getfield 29, 3) := by decide +kernel
theorem dX1_strike_48 : decode cX1_strike 48 = .ok (.iload_n 2, 1) := by decide +kernel
theorem dX1_strike_49 : decode cX1_strike 49 = .ok (.aload_n 0, 1) := by decide +kernel
theorem dX1_strike_50 : decode cX1_strike 50 = .ok (.getfield 29, 3) := by decide +kernel
theorem dX1_strike_53 : decode cX1_strike 53 = .ok (.iload_n 2, 1) := by decide +kernel
theorem dX1_strike_54 : decode cX1_strike 54 = .ok (.iconst 1, 1) := by decide +kernel
theorem dX1_strike_55 : decode cX1_strike 55 = .ok (.iadd, 1) := by decide +kernel
theorem dX1_strike_56 : decode cX1_strike 56 = .ok (.iaload, 1) := by decide +kernel
theorem dX1_strike_57 : decode cX1_strike 57 = .ok (.iastore, 1) := by decide +kernel
theorem dX1_strike_58 : decode cX1_strike 58 = .ok (.aload_n 0, 1) := by decide +kernel
theorem dX1_strike_59 : decode cX1_strike 59 = .ok (.getfield 32, 3) := by decide +kernel
theorem dX1_strike_62 : decode cX1_strike 62 = .ok (.iload_n 2, 1) := by decide +kernel
theorem dX1_strike_63 : decode cX1_strike 63 = .ok (.aload_n 0, 1) := by decide +kernel
theorem dX1_strike_64 : decode cX1_strike 64 = .ok (.getfield 32, 3) := by decide +kernel
theorem dX1_strike_67 : decode cX1_strike 67 = .ok (.iload_n 2, 1) := by decide +kernel
theorem dX1_strike_68 : decode cX1_strike 68 = .ok (.iconst 1, 1) := by decide +kernel
theorem dX1_strike_69 : decode cX1_strike 69 = .ok (.iadd, 1) := by decide +kernel
theorem dX1_strike_70 : decode cX1_strike 70 = .ok (.baload, 1) := by decide +kernel
theorem dX1_strike_71 : decode cX1_strike 71 = .ok (.bastore, 1) := by decide +kernel
theorem dX1_strike_72 : decode cX1_strike 72 = .ok (.iinc 2 1, 3) := by decide +kernel
theorem dX1_strike_75 : decode cX1_strike 75 = .ok (.goto (-41), 3) := by decide +kernel
theorem dX1_strike_78 : decode cX1_strike 78 = .ok (.aload_n 0, 1) := by decide +kernel
theorem dX1_strike_79 : decode cX1_strike 79 = .ok (.dup, 1) := by decide +kernel
theorem dX1_strike_80 : decode cX1_strike 80 = .ok (.getfield 55, 3) := by decide +kernel
theorem dX1_strike_83 : decode cX1_strike 83 = .ok (.iconst 1, 1) := by decide +kernel
theorem dX1_strike_84 : decode cX1_strike 84 = .ok (.isub, 1) := by decide +kernel
theorem dX1_strike_85 : decode cX1_strike 85 = .ok (.putfield 55, 3) := by decide +kernel
theorem dX1_strike_88 : decode cX1_strike 88 = .ok (.aload_n 0, 1) := by decide +kernel
theorem dX1_strike_89 : decode cX1_strike 89 = .ok (.getfield 55, 3) := by decide +kernel
theorem dX1_strike_92 : decode cX1_strike 92 = .ok (.ireturn, 1) := by decide +kernel
set_option maxRecDepth 20000 in
theorem ggX1_turnJoined_X1_isIn : GoodIn wsX1_turnJoined wsX1_isIn := goodIn_r _ [9] (by decide +kernel) (by decide +kernel)
set_option maxRecDepth 20000 in
theorem gX1_turnJoined_X1_isIn : GoodIn wsX1_turnJoined (va_wsS RX1 51 yX1_isIn wsX1_isIn) := goodIn_app (goodIn_of _ (by decide +kernel)) ggX1_turnJoined_X1_isIn
set_option maxRecDepth 20000 in
theorem ggX1_turnJoined_X1_failed : GoodIn wsX1_turnJoined wsX1_failed := goodIn_r _ [13, 1, 17, 18, 19, 20, 21, 22, 23, 24, 25, 26, 27, 28, 29, 30, 31, 32] (by decide +kernel) (by decide +kernel)
set_option maxRecDepth 20000 in
theorem gX1_turnJoined_X1_failed : GoodIn wsX1_turnJoined (wsV RX1 106 RX1 yX1_failed wsX1_failed) := goodIn_app (goodIn_of _ (by decide +kernel)) ggX1_turnJoined_X1_failed
set_option maxRecDepth 20000 in
theorem ggX1_turnJoined_X1_has : GoodIn wsX1_turnJoined wsX1_has := goodIn_r _ [16] (by decide +kernel) (by decide +kernel)
set_option maxRecDepth 20000 in
theorem gX1_turnJoined_X1_has : GoodIn wsX1_turnJoined (va_wsS RX1 76 yX1_has wsX1_has) := goodIn_app (goodIn_of _ (by decide +kernel)) ggX1_turnJoined_X1_has
theorem dX1_turnJoined_0 : decode cX1_turnJoined 0 = .ok (.aload_n 0, 1) := by decide +kernel
theorem dX1_turnJoined_1 : decode cX1_turnJoined 1 = .ok (.iconst 0, 1) := by decide +kernel
theorem dX1_turnJoined_2 : decode cX1_turnJoined 2 = .ok (.putfield 45, 3) := by decide +kernel
theorem dX1_turnJoined_5 : decode cX1_turnJoined 5 = .ok (.iload_n 1, 1) := by decide +kernel
theorem dX1_turnJoined_6 : decode cX1_turnJoined 6 = .ok (.iconst 0, 1) := by decide +kernel
theorem dX1_turnJoined_7 : decode cX1_turnJoined 7 = .ok (.aload_n 0, 1) := by decide +kernel
theorem dX1_turnJoined_8 : decode cX1_turnJoined 8 = .ok (.getfield 55, 3) := by decide +kernel
theorem dX1_turnJoined_11 : decode cX1_turnJoined 11 = .ok (.iconst 2, 1) := by decide +kernel
theorem dX1_turnJoined_12 : decode cX1_turnJoined 12 = .ok (.isub, 1) := by decide +kernel
theorem dX1_turnJoined_13 : decode cX1_turnJoined 13 = .ok (.invokestatic 51, 3) := by decide +kernel
theorem dX1_turnJoined_16 : decode cX1_turnJoined 16 = .ok (.ifCond .ne 9, 3) := by decide +kernel
theorem dX1_turnJoined_19 : decode cX1_turnJoined 19 = .ok (.aload_n 0, 1) := by decide +kernel
theorem dX1_turnJoined_20 : decode cX1_turnJoined 20 = .ok (.iconst 1, 1) := by decide +kernel
theorem dX1_turnJoined_21 : decode cX1_turnJoined 21 = .ok (.invokevirtual 106, 3) := by decide +kernel
theorem dX1_turnJoined_24 : decode cX1_turnJoined 24 = .ok (.ireturn, 1) := by decide +kernel
theorem dX1_turnJoined_25 : decode cX1_turnJoined 25 = .ok (.aload_n 0, 1) := by decide +kernel
theorem dX1_turnJoined_26 : decode cX1_turnJoined 26 = .ok (.getfield 32, 3) := by decide +kernel
theorem dX1_turnJoined_29 : decode cX1_turnJoined 29 = .ok (.iload_n 1, 1) := by decide +kernel
theorem dX1_turnJoined_30 : decode cX1_turnJoined 30 = .ok (.baload, 1) := by decide +kernel
theorem dX1_turnJoined_31 : decode cX1_turnJoined 31 = .ok (.ifCond .ne 70, 3) := by decide +kernel
theorem dX1_turnJoined_34 : decode cX1_turnJoined 34 = .ok (.iload_n 1, 1) := by decide +kernel
theorem dX1_turnJoined_35 : decode cX1_turnJoined 35 = .ok (.ifCond .le 14, 3) := by decide +kernel
theorem dX1_turnJoined_38 : decode cX1_turnJoined 38 = .ok (.aload_n 0, 1) := by decide +kernel
theorem dX1_turnJoined_39 : decode cX1_turnJoined 39 = .ok (.getfield 32, 3) := by decide +kernel
theorem dX1_turnJoined_42 : decode cX1_turnJoined 42 = .ok (.iload_n 1, 1) := by decide +kernel
theorem dX1_turnJoined_43 : decode cX1_turnJoined 43 = .ok (.iconst 1, 1) := by decide +kernel
theorem dX1_turnJoined_44 : decode cX1_turnJoined 44 = .ok (.isub, 1) := by decide +kernel
theorem dX1_turnJoined_45 : decode cX1_turnJoined 45 = .ok (.baload, 1) := by decide +kernel
theorem dX1_turnJoined_46 : decode cX1_turnJoined 46 = .ok (.ifCond .ne 14, 3) := by decide +kernel
theorem dX1_turnJoined_49 : decode cX1_turnJoined 49 = .ok (.aload_n 0, 1) := by decide +kernel
theorem dX1_turnJoined_50 : decode cX1_turnJoined 50 = .ok (.getfield 32, 3) := by decide +kernel
theorem dX1_turnJoined_53 : decode cX1_turnJoined 53 = .ok (.iload_n 1, 1) := by decide +kernel
theorem dX1_turnJoined_54 : decode cX1_turnJoined 54 = .ok (.iconst 1, 1) := by decide +kernel
theorem dX1_turnJoined_55 : decode cX1_turnJoined 55 = .ok (.iadd, 1) := by decide +kernel
theorem dX1_turnJoined_56 : decode cX1_turnJoined 56 = .ok (.baload, 1) := by decide +kernel
theorem dX1_turnJoined_57 : decode cX1_turnJoined 57 = .ok (.ifCond .eq 7, 3) := by decide +kernel
theorem dX1_turnJoined_60 : decode cX1_turnJoined 60 = .ok (.iconst 1, 1) := by decide +kernel
theorem dX1_turnJoined_61 : decode cX1_turnJoined 61 = .ok (.goto 4, 3) := by decide +kernel
theorem dX1_turnJoined_64 : decode cX1_turnJoined 64 = .ok (.iconst 0, 1) := by decide +kernel
theorem dX1_turnJoined_65 : decode cX1_turnJoined 65 = .ok (.istore_n 2, 1) := by decide +kernel
theorem dX1_turnJoined_66 : decode cX1_turnJoined 66 = .ok (.iload_n 2, 1) := by decide +kernel
theorem dX1_turnJoined_67 : decode cX1_turnJoined 67 = .ok (.ifCond .ne 28, 3) := by decide +kernel
theorem dX1_turnJoined_70 : decode cX1_turnJoined 70 = .ok (.aload_n 0, 1) := by decide +kernel
theorem dX1_turnJoined_71 : decode cX1_turnJoined 71 = .ok (.getfield 26, 3) := by decide +kernel
theorem dX1_turnJoined_74 : decode cX1_turnJoined 74 = .ok (.aload_n 0, 1) := by decide +kernel
theorem dX1_turnJoined_75 : decode cX1_turnJoined 75 = .ok (.getfield 29, 3) := by decide +kernel
theorem dX1_turnJoined_78 : decode cX1_turnJoined 78 = .ok (.iload_n 1, 1) := by decide +kernel
theorem dX1_turnJoined_79 : decode cX1_turnJoined 79 = .ok (.iaload, 1) := by decide +kernel
theorem dX1_turnJoined_80 : decode cX1_turnJoined 80 = .ok (.iaload, 1) := by decide +kernel
theorem dX1_turnJoined_81 : decode cX1_turnJoined 81 = .ok (.aload_n 0, 1) := by decide +kernel
theorem dX1_turnJoined_82 : decode cX1_turnJoined 82 = .ok (.getfield 29, 3) := by decide +kernel
theorem dX1_turnJoined_85 : decode cX1_turnJoined 85 = .ok (.iload_n 1, 1) := by decide +kernel
theorem dX1_turnJoined_86 : decode cX1_turnJoined 86 = .ok (.iconst 1, 1) := by decide +kernel
theorem dX1_turnJoined_87 : decode cX1_turnJoined 87 = .ok (.iadd, 1) := by decide +kernel
theorem dX1_turnJoined_88 : decode cX1_turnJoined 88 = .ok (.iaload, 1) := by decide +kernel
theorem dX1_turnJoined_89 : decode cX1_turnJoined 89 = .ok (.invokestatic 76, 3) := by decide +kernel
theorem dX1_turnJoined_92 : decode cX1_turnJoined 92 = .ok (.ifCond .ne 9, 3) := by decide +kernel
theorem dX1_turnJoined_95 : decode cX1_turnJoined 95 = .ok (.aload_n 0, 1) := by decide +kernel
theorem dX1_turnJoined_96 : decode cX1_turnJoined 96 = .ok (.iconst 2, 1) := by decide +kernel
theorem dX1_turnJoined_97 : decode cX1_turnJoined 97 = .ok (.invokevirtual 106, 3) := by decide +kernel
theorem dX1_turnJoined_100 : decode cX1_turnJoined 100 = .ok (.ireturn, 1) := by decide +kernel
theorem dX1_turnJoined_101 : decode cX1_turnJoined 101 = .ok (.aload_n 0, 1) := by decide +kernel
theorem dX1_turnJoined_102 : decode cX1_turnJoined 102 = .ok (.getfield 32, 3) := by decide +kernel
theorem dX1_turnJoined_105 : decode cX1_turnJoined 105 = .ok (.iload_n 1, 1) := by decide +kernel
theorem dX1_turnJoined_106 : decode cX1_turnJoined 106 = .ok (.aload_n 0, 1) := by decide +kernel
theorem dX1_turnJoined_107 : decode cX1_turnJoined 107 = .ok (.getfield 32, 3) := by decide +kernel
theorem dX1_turnJoined_110 : decode cX1_turnJoined 110 = .ok (.iload_n 1, 1) := by decide +kernel
theorem dX1_turnJoined_111 : decode cX1_turnJoined 111 = .ok (.baload, 1) := by decide +kernel
theorem dX1_turnJoined_112 : decode cX1_turnJoined 112 = .ok (.ifCond .ne 7, 3) := by decide +kernel
theorem dX1_turnJoined_115 : decode cX1_turnJoined 115 = .ok (.iconst 1, 1) := by decide +kernel
theorem dX1_turnJoined_116 : decode cX1_turnJoined 116 = .ok (.goto 4, 3) := by decide +kernel
theorem dX1_turnJoined_119 : decode cX1_turnJoined 119 = .ok (.iconst 0, 1) := by decide +kernel
theorem dX1_turnJoined_120 : decode cX1_turnJoined 120 = .ok (.bastore, 1) := by decide +kernel
theorem dX1_turnJoined_121 : decode cX1_turnJoined 121 = .ok (.aload_n 0, 1) := by decide +kernel
theorem dX1_turnJoined_122 : decode cX1_turnJoined 122 = .ok (.getfield 32, 3) := by decide +kernel
theorem dX1_turnJoined_125 : decode cX1_turnJoined 125 = .ok (.iload_n 1, 1) := by decide +kernel
theorem dX1_turnJoined_126 : decode cX1_turnJoined 126 = .ok (.baload, 1) := by decide +kernel
theorem dX1_turnJoined_127 : decode cX1_turnJoined 127 = .ok (.ireturn, 1) := by decide +kernel
set_option maxRecDepth 20000 in
theorem ggX1_reword_X1_countNow : GoodIn wsX1_reword wsX1_countNow := goodIn_r _ [15, 4, 16, 3, 10, 17, 18, 19, 14, 20, 21, 22, 23, 24, 25, 26, 27, 28, 29, 30, 66, 67, 68, 69, 70, 71, 72, 73, 74, 75, 76, 77, 78, 79, 80, 81] (by decide +kernel) (by decide +kernel)
set_option maxRecDepth 20000 in
theorem gX1_reword_X1_countNow : GoodIn wsX1_reword (wsV RX1 112 RX1 yX1_countNow wsX1_countNow) := goodIn_app (goodIn_of _ (by decide +kernel)) ggX1_reword_X1_countNow
set_option maxRecDepth 20000 in
theorem ggX1_reword_X1_choose : GoodIn wsX1_reword wsX1_choose := goodIn_r _ [34, 4, 9, 2, 35, 36, 37, 14, 38, 39, 40, 41, 29, 42, 43, 44, 45, 46, 47, 48, 49, 3, 16, 50, 51, 52, 17, 18, 19, 20, 21, 53, 54, 55, 56, 57, 58, 59, 60, 61, 62, 63, 64, 65, 66, 67, 68, 69, 70, 71, 72, 73, 74, 75, 76, 77, 78, 79, 80, 81] (by decide +kernel) (by decide +kernel)
set_option maxRecDepth 20000 in
theorem gX1_reword_X1_choose : GoodIn wsX1_reword (wsV RX1 115 RX1 yX1_choose wsX1_choose) := goodIn_app (goodIn_of _ (by decide +kernel)) ggX1_reword_X1_choose
theorem dX1_reword_0 : decode cX1_reword 0 = .ok (.aload_n 0, 1) := by decide +kernel
theorem dX1_reword_1 : decode cX1_reword 1 = .ok (.iconst 0, 1) := by decide +kernel
theorem dX1_reword_2 : decode cX1_reword 2 = .ok (.putfield 45, 3) := by decide +kernel
theorem dX1_reword_5 : decode cX1_reword 5 = .ok (.aload_n 0, 1) := by decide +kernel
theorem dX1_reword_6 : decode cX1_reword 6 = .ok (.invokevirtual 112, 3) := by decide +kernel
theorem dX1_reword_9 : decode cX1_reword 9 = .ok (.istore_n 1, 1) := by decide +kernel
theorem dX1_reword_10 : decode cX1_reword 10 = .ok (.aload_n 0, 1) := by decide +kernel
theorem dX1_reword_11 : decode cX1_reword 11 = .ok (.invokevirtual 115, 3) := by decide +kernel
theorem dX1_reword_14 : decode cX1_reword 14 = .ok (.aload_n 0, 1) := by decide +kernel
theorem dX1_reword_15 : decode cX1_reword 15 = .ok (.getfield 39, 3) := by decide +kernel
theorem dX1_reword_18 : decode cX1_reword 18 = .ok (.iconst 0, 1) := by decide +kernel
theorem dX1_reword_19 : decode cX1_reword 19 = .ok (.aload_n 0, 1) := by decide +kernel
theorem dX1_reword_20 : decode cX1_reword 20 = .ok (.getfield 29, 3) := by decide +kernel
theorem dX1_reword_23 : decode cX1_reword 23 = .ok (.iconst 0, 1) := by decide +kernel
theorem dX1_reword_24 : decode cX1_reword 24 = .ok (.aload_n 0, 1) := by decide +kernel
theorem dX1_reword_25 : decode cX1_reword 25 = .ok (.getfield 55, 3) := by decide +kernel
theorem dX1_reword_28 : decode cX1_reword 28 = .ok (.invokestatic 118, 3) := by decide +kernel
theorem dX1_reword_31 : decode cX1_reword 31 = .ok (.aload_n 0, 1) := by decide +kernel
theorem dX1_reword_32 : decode cX1_reword 32 = .ok (.getfield 42, 3) := by decide +kernel
theorem dX1_reword_35 : decode cX1_reword 35 = .ok (.iconst 0, 1) := by decide +kernel
theorem dX1_reword_36 : decode cX1_reword 36 = .ok (.aload_n 0, 1) := by decide +kernel
theorem dX1_reword_37 : decode cX1_reword 37 = .ok (.getfield 32, 3) := by decide +kernel
theorem dX1_reword_40 : decode cX1_reword 40 = .ok (.iconst 0, 1) := by decide +kernel
theorem dX1_reword_41 : decode cX1_reword 41 = .ok (.aload_n 0, 1) := by decide +kernel
theorem dX1_reword_42 : decode cX1_reword 42 = .ok (.getfield 55, 3) := by decide +kernel
theorem dX1_reword_45 : decode cX1_reword 45 = .ok (.invokestatic 118, 3) := by decide +kernel
theorem dX1_reword_48 : decode cX1_reword 48 = .ok (.iload_n 1, 1) := by decide +kernel
theorem dX1_reword_49 : decode cX1_reword 49 = .ok (.aload_n 0, 1) := by decide +kernel
theorem dX1_reword_50 : decode cX1_reword 50 = .ok (.invokevirtual 112, 3) := by decide +kernel
theorem dX1_reword_53 : decode cX1_reword 53 = .ok (.isub, 1) := by decide +kernel
theorem dX1_reword_54 : decode cX1_reword 54 = .ok (.ireturn, 1) := by decide +kernel
set_option maxRecDepth 20000 in
theorem ggX1_costTo_X1_countNow : GoodIn wsX1_costTo wsX1_countNow := goodIn_r _ [6, 7, 8, 9, 10, 11, 12, 13, 5, 14, 15, 16, 17, 18, 19, 20, 21, 22, 23, 24, 25, 26, 27, 28, 29, 30, 31, 32, 33, 34, 35, 36, 37, 38, 39, 40] (by decide +kernel) (by decide +kernel)
set_option maxRecDepth 20000 in
theorem gX1_costTo_X1_countNow : GoodIn wsX1_costTo (wsV RX1 112 RX1 yX1_countNow wsX1_countNow) := goodIn_app (goodIn_of _ (by decide +kernel)) ggX1_costTo_X1_countNow
theorem dX1_costTo_0 : decode cX1_costTo 0 = .ok (.aload_n 0, 1) := by decide +kernel
theorem dX1_costTo_1 : decode cX1_costTo 1 = .ok (.invokevirtual 112, 3) := by decide +kernel
theorem dX1_costTo_4 : decode cX1_costTo 4 = .ok (.aload_n 0, 1) := by decide +kernel
theorem dX1_costTo_5 : decode cX1_costTo 5 = .ok (.getfield 16, 3) := by decide +kernel
theorem dX1_costTo_8 : decode cX1_costTo 8 = .ok (.imul, 1) := by decide +kernel
theorem dX1_costTo_9 : decode cX1_costTo 9 = .ok (.iload_n 1, 1) := by decide +kernel
theorem dX1_costTo_10 : decode cX1_costTo 10 = .ok (.iconst 2, 1) := by decide +kernel
theorem dX1_costTo_11 : decode cX1_costTo 11 = .ok (.iadd, 1) := by decide +kernel
theorem dX1_costTo_12 : decode cX1_costTo 12 = .ok (.imul, 1) := by decide +kernel
theorem dX1_costTo_13 : decode cX1_costTo 13 = .ok (.iconst 2, 1) := by decide +kernel
theorem dX1_costTo_14 : decode cX1_costTo 14 = .ok (.idiv, 1) := by decide +kernel
theorem dX1_costTo_15 : decode cX1_costTo 15 = .ok (.ireturn, 1) := by decide +kernel
set_option maxRecDepth 20000 in
theorem ggX1_send_X1_isIn : GoodIn wsX1_send wsX1_isIn := goodIn_r _ [8] (by decide +kernel) (by decide +kernel)
set_option maxRecDepth 20000 in
theorem gX1_send_X1_isIn : GoodIn wsX1_send (va_wsS RX1 51 yX1_isIn wsX1_isIn) := goodIn_app (goodIn_of _ (by decide +kernel)) ggX1_send_X1_isIn
set_option maxRecDepth 20000 in
theorem ggX1_send_X1_fail : GoodIn wsX1_send wsX1_fail := goodIn_r _ [12, 1, 39, 40, 41, 42, 43, 44, 45, 46, 47, 48, 49, 50, 51, 52, 53, 54] (by decide +kernel) (by decide +kernel)
set_option maxRecDepth 20000 in
theorem gX1_send_X1_fail : GoodIn wsX1_send (wsV RX1 100 RX1 yX1_fail wsX1_fail) := goodIn_app (goodIn_of _ (by decide +kernel)) ggX1_send_X1_fail
set_option maxRecDepth 20000 in
theorem ggX1_send_X1_costTo : GoodIn wsX1_send wsX1_costTo := goodIn_r _ [16, 17, 18, 19, 20, 7, 21, 2, 22, 23, 24, 25, 26, 27, 28, 29, 30, 31, 32, 33, 34, 35, 36, 37, 38, 39, 40, 41, 42, 43, 44, 45, 46, 47, 48, 49, 50, 51, 52, 53, 54] (by decide +kernel) (by decide +kernel)
set_option maxRecDepth 20000 in
theorem gX1_send_X1_costTo : GoodIn wsX1_send (wsV RX1 124 RX1 yX1_costTo wsX1_costTo) := goodIn_app (goodIn_of _ (by decide +kernel)) ggX1_send_X1_costTo
theorem dX1_send_0 : decode cX1_send 0 = .ok (.aload_n 0, 1) := by decide +kernel
theorem dX1_send_1 : decode cX1_send 1 = .ok (.iconst 0, 1) := by decide +kernel
theorem dX1_send_2 : decode cX1_send 2 = .ok (.putfield 45, 3) := by decide +kernel
theorem dX1_send_5 : decode cX1_send 5 = .ok (.iload_n 1, 1) := by decide +kernel
theorem dX1_send_6 : decode cX1_send 6 = .ok (.iconst 0, 1) := by decide +kernel
theorem dX1_send_7 : decode cX1_send 7 = .ok (.iconst 3, 1) := by decide +kernel
theorem dX1_send_8 : decode cX1_send 8 = .ok (.invokestatic 51, 3) := by decide +kernel
theorem dX1_send_11 : decode cX1_send 11 = .ok (.ifCond .ne 9, 3) := by decide +kernel
theorem dX1_send_14 : decode cX1_send 14 = .ok (.aload_n 0, 1) := by decide +kernel
theorem dX1_send_15 : decode cX1_send 15 = .ok (.iconst 1, 1) := by decide +kernel
theorem dX1_send_16 : decode cX1_send 16 = .ok (.invokevirtual 100, 3) := by decide +kernel
theorem dX1_send_19 : decode cX1_send 19 = .ok (.ireturn, 1) := by decide +kernel
theorem dX1_send_20 : decode cX1_send 20 = .ok (.aload_n 0, 1) := by decide +kernel
theorem dX1_send_21 : decode cX1_send 21 = .ok (.getfield 55, 3) := by decide +kernel
theorem dX1_send_24 : decode cX1_send 24 = .ok (.ifCond .ne 9, 3) := by decide +kernel
theorem dX1_send_27 : decode cX1_send 27 = .ok (.aload_n 0, 1) := by decide +kernel
theorem dX1_send_28 : decode cX1_send 28 = .ok (.iconst 2, 1) := by decide +kernel
theorem dX1_send_29 : decode cX1_send 29 = .ok (.invokevirtual 100, 3) := by decide +kernel
theorem dX1_send_32 : decode cX1_send 32 = .ok (.ireturn, 1) := by decide +kernel
theorem dX1_send_33 : decode cX1_send 33 = .ok (.aload_n 0, 1) := by decide +kernel
theorem dX1_send_34 : decode cX1_send 34 = .ok (.iload_n 1, 1) := by decide +kernel
theorem dX1_send_35 : decode cX1_send 35 = .ok (.invokevirtual 124, 3) := by decide +kernel
theorem dX1_send_38 : decode cX1_send 38 = .ok (.istore_n 2, 1) := by decide +kernel
theorem dX1_send_39 : decode cX1_send 39 = .ok (.aload_n 0, 1) := by decide +kernel
theorem dX1_send_40 : decode cX1_send 40 = .ok (.dup, 1) := by decide +kernel
theorem dX1_send_41 : decode cX1_send 41 = .ok (.getfield 127, 3) := by decide +kernel
theorem dX1_send_44 : decode cX1_send 44 = .ok (.iconst 1, 1) := by decide +kernel
theorem dX1_send_45 : decode cX1_send 45 = .ok (.iadd, 1) := by decide +kernel
theorem dX1_send_46 : decode cX1_send 46 = .ok (.putfield 127, 3) := by decide +kernel
theorem dX1_send_49 : decode cX1_send 49 = .ok (.aload_n 0, 1) := by decide +kernel
theorem dX1_send_50 : decode cX1_send 50 = .ok (.dup, 1) := by decide +kernel
theorem dX1_send_51 : decode cX1_send 51 = .ok (.getfield 130, 3) := by decide +kernel
theorem dX1_send_54 : decode cX1_send 54 = .ok (.iload_n 2, 1) := by decide +kernel
theorem dX1_send_55 : decode cX1_send 55 = .ok (.iadd, 1) := by decide +kernel
theorem dX1_send_56 : decode cX1_send 56 = .ok (.putfield 130, 3) := by decide +kernel
theorem dX1_send_59 : decode cX1_send 59 = .ok (.aload_n 0, 1) := by decide +kernel
theorem dX1_send_60 : decode cX1_send 60 = .ok (.iconst 0, 1) := by decide +kernel
theorem dX1_send_61 : decode cX1_send 61 = .ok (.putfield 55, 3) := by decide +kernel
theorem dX1_send_64 : decode cX1_send 64 = .ok (.iload_n 2, 1) := by decide +kernel
theorem dX1_send_65 : decode cX1_send 65 = .ok (.ireturn, 1) := by decide +kernel
set_option maxRecDepth 20000 in
theorem ggX1_words_X1_told : GoodIn wsX1_words wsX1_told := goodIn_r _ [6, 7, 8, 9, 10, 11, 12, 13, 14, 15, 16, 17, 18, 19, 20, 21, 22, 23] (by decide +kernel) (by decide +kernel)
set_option maxRecDepth 20000 in
theorem gX1_words_X1_told : GoodIn wsX1_words (wsV RX1 133 RX1 yX1_told wsX1_told) := goodIn_app (goodIn_of _ (by decide +kernel)) ggX1_words_X1_told
theorem dX1_words_0 : decode cX1_words 0 = .ok (.aload_n 0, 1) := by decide +kernel
theorem dX1_words_1 : decode cX1_words 1 = .ok (.aload_n 0, 1) := by decide +kernel
theorem dX1_words_2 : decode cX1_words 2 = .ok (.getfield 48, 3) := by decide +kernel
theorem dX1_words_5 : decode cX1_words 5 = .ok (.invokevirtual 133, 3) := by decide +kernel
theorem dX1_words_8 : decode cX1_words 8 = .ok (.ireturn, 1) := by decide +kernel
set_option maxRecDepth 20000 in
theorem ggX1_lettersOf_X1_isWord : GoodIn wsX1_lettersOf wsX1_isWord := goodIn_r _ [7, 8, 9, 10, 6, 11, 16, 17, 18, 19, 20, 21, 22, 23, 24, 25, 26, 27, 28, 29, 30, 31] (by decide +kernel) (by decide +kernel)
set_option maxRecDepth 20000 in
theorem gX1_lettersOf_X1_isWord : GoodIn wsX1_lettersOf (wsV RX1 58 RX1 yX1_isWord wsX1_isWord) := goodIn_app (goodIn_of _ (by decide +kernel)) ggX1_lettersOf_X1_isWord
set_option maxRecDepth 20000 in
theorem ggX1_lettersOf_X1_fail : GoodIn wsX1_lettersOf wsX1_fail := goodIn_r _ [15, 1, 16, 17, 18, 19, 20, 21, 22, 23, 24, 25, 26, 27, 28, 29, 30, 31] (by decide +kernel) (by decide +kernel)
set_option maxRecDepth 20000 in
theorem gX1_lettersOf_X1_fail : GoodIn wsX1_lettersOf (wsV RX1 100 RX1 yX1_fail wsX1_fail) := goodIn_app (goodIn_of _ (by decide +kernel)) ggX1_lettersOf_X1_fail
theorem dX1_lettersOf_0 : decode cX1_lettersOf 0 = .ok (.aload_n 0, 1) := by decide +kernel
theorem dX1_lettersOf_1 : decode cX1_lettersOf 1 = .ok (.iconst 0, 1) := by decide +kernel
theorem dX1_lettersOf_2 : decode cX1_lettersOf 2 = .ok (.putfield 45, 3) := by decide +kernel
theorem dX1_lettersOf_5 : decode cX1_lettersOf 5 = .ok (.aload_n 0, 1) := by decide +kernel
theorem dX1_lettersOf_6 : decode cX1_lettersOf 6 = .ok (.iload_n 1, 1) := by decide +kernel
theorem dX1_lettersOf_7 : decode cX1_lettersOf 7 = .ok (.invokevirtual 58, 3) := by decide +kernel
theorem dX1_lettersOf_10 : decode cX1_lettersOf 10 = .ok (.ifCond .eq 12, 3) := by decide +kernel
theorem dX1_lettersOf_13 : decode cX1_lettersOf 13 = .ok (.aload_n 0, 1) := by decide +kernel
theorem dX1_lettersOf_14 : decode cX1_lettersOf 14 = .ok (.getfield 19, 3) := by decide +kernel
theorem dX1_lettersOf_17 : decode cX1_lettersOf 17 = .ok (.iload_n 1, 1) := by decide +kernel
theorem dX1_lettersOf_18 : decode cX1_lettersOf 18 = .ok (.iaload, 1) := by decide +kernel
theorem dX1_lettersOf_19 : decode cX1_lettersOf 19 = .ok (.goto 8, 3) := by decide +kernel
theorem dX1_lettersOf_22 : decode cX1_lettersOf 22 = .ok (.aload_n 0, 1) := by decide +kernel
theorem dX1_lettersOf_23 : decode cX1_lettersOf 23 = .ok (.iconst 1, 1) := by decide +kernel
theorem dX1_lettersOf_24 : decode cX1_lettersOf 24 = .ok (.invokevirtual 100, 3) := by decide +kernel
theorem dX1_lettersOf_27 : decode cX1_lettersOf 27 = .ok (.ireturn, 1) := by decide +kernel
set_option maxRecDepth 20000 in
theorem ggX1_countOf_X1_isWord : GoodIn wsX1_countOf wsX1_isWord := goodIn_r _ [7, 8, 9, 10, 6, 11, 21, 22, 23, 24, 25, 26, 27, 28, 29, 30, 31, 32, 33, 34, 35, 36] (by decide +kernel) (by decide +kernel)
set_option maxRecDepth 20000 in
theorem gX1_countOf_X1_isWord : GoodIn wsX1_countOf (wsV RX1 58 RX1 yX1_isWord wsX1_isWord) := goodIn_app (goodIn_of _ (by decide +kernel)) ggX1_countOf_X1_isWord
set_option maxRecDepth 20000 in
theorem ggX1_countOf_X1_counts : GoodIn wsX1_countOf wsX1_counts := goodIn_r _ [15, 16, 21, 22, 23, 24, 25, 26, 27, 28, 29, 30, 31, 32, 33, 34, 35, 36] (by decide +kernel) (by decide +kernel)
set_option maxRecDepth 20000 in
theorem gX1_countOf_X1_counts : GoodIn wsX1_countOf (wsV RX1 68 RX1 yX1_counts wsX1_counts) := goodIn_app (goodIn_of _ (by decide +kernel)) ggX1_countOf_X1_counts
set_option maxRecDepth 20000 in
theorem ggX1_countOf_X1_fail : GoodIn wsX1_countOf wsX1_fail := goodIn_r _ [20, 1, 21, 22, 23, 24, 25, 26, 27, 28, 29, 30, 31, 32, 33, 34, 35, 36] (by decide +kernel) (by decide +kernel)
set_option maxRecDepth 20000 in
theorem gX1_countOf_X1_fail : GoodIn wsX1_countOf (wsV RX1 100 RX1 yX1_fail wsX1_fail) := goodIn_app (goodIn_of _ (by decide +kernel)) ggX1_countOf_X1_fail
theorem dX1_countOf_0 : decode cX1_countOf 0 = .ok (.aload_n 0, 1) := by decide +kernel
theorem dX1_countOf_1 : decode cX1_countOf 1 = .ok (.iconst 0, 1) := by decide +kernel
theorem dX1_countOf_2 : decode cX1_countOf 2 = .ok (.putfield 45, 3) := by decide +kernel
theorem dX1_countOf_5 : decode cX1_countOf 5 = .ok (.aload_n 0, 1) := by decide +kernel
theorem dX1_countOf_6 : decode cX1_countOf 6 = .ok (.iload_n 1, 1) := by decide +kernel
theorem dX1_countOf_7 : decode cX1_countOf 7 = .ok (.invokevirtual 58, 3) := by decide +kernel
theorem dX1_countOf_10 : decode cX1_countOf 10 = .ok (.ifCond .eq 16, 3) := by decide +kernel
theorem dX1_countOf_13 : decode cX1_countOf 13 = .ok (.aload_n 0, 1) := by decide +kernel
theorem dX1_countOf_14 : decode cX1_countOf 14 = .ok (.aload_n 0, 1) := by decide +kernel
theorem dX1_countOf_15 : decode cX1_countOf 15 = .ok (.getfield 19, 3) := by decide +kernel
theorem dX1_countOf_18 : decode cX1_countOf 18 = .ok (.iload_n 1, 1) := by decide +kernel
theorem dX1_countOf_19 : decode cX1_countOf 19 = .ok (.iaload, 1) := by decide +kernel
theorem dX1_countOf_20 : decode cX1_countOf 20 = .ok (.invokevirtual 68, 3) := by decide +kernel
theorem dX1_countOf_23 : decode cX1_countOf 23 = .ok (.goto 8, 3) := by decide +kernel
theorem dX1_countOf_26 : decode cX1_countOf 26 = .ok (.aload_n 0, 1) := by decide +kernel
theorem dX1_countOf_27 : decode cX1_countOf 27 = .ok (.iconst 1, 1) := by decide +kernel
theorem dX1_countOf_28 : decode cX1_countOf 28 = .ok (.invokevirtual 100, 3) := by decide +kernel
theorem dX1_countOf_31 : decode cX1_countOf 31 = .ok (.ireturn, 1) := by decide +kernel
set_option maxRecDepth 20000 in
theorem ggX1_mayStandFor_X1_arePair : GoodIn wsX1_mayStandFor wsX1_arePair := goodIn_r _ [6, 7, 8, 9, 10, 5, 11, 12, 13, 14, 15, 19, 20, 21, 22, 23, 24, 25, 26, 27, 28, 29, 30, 31, 32, 33, 34] (by decide +kernel) (by decide +kernel)
set_option maxRecDepth 20000 in
theorem gX1_mayStandFor_X1_arePair : GoodIn wsX1_mayStandFor (wsV RX1 103 RX1 yX1_arePair wsX1_arePair) := goodIn_app (goodIn_of _ (by decide +kernel)) ggX1_mayStandFor_X1_arePair
set_option maxRecDepth 20000 in
theorem ggX1_mayStandFor_X1_has : GoodIn wsX1_mayStandFor wsX1_has := goodIn_r _ [18] (by decide +kernel) (by decide +kernel)
set_option maxRecDepth 20000 in
theorem gX1_mayStandFor_X1_has : GoodIn wsX1_mayStandFor (va_wsS RX1 76 yX1_has wsX1_has) := goodIn_app (goodIn_of _ (by decide +kernel)) ggX1_mayStandFor_X1_has
theorem dX1_mayStandFor_0 : decode cX1_mayStandFor 0 = .ok (.aload_n 0, 1) := by decide +kernel
theorem dX1_mayStandFor_1 : decode cX1_mayStandFor 1 = .ok (.iload_n 1, 1) := by decide +kernel
theorem dX1_mayStandFor_2 : decode cX1_mayStandFor 2 = .ok (.iload_n 2, 1) := by decide +kernel
theorem dX1_mayStandFor_3 : decode cX1_mayStandFor 3 = .ok (.invokevirtual 103, 3) := by decide +kernel
theorem dX1_mayStandFor_6 : decode cX1_mayStandFor 6 = .ok (.ifCond .eq 20, 3) := by decide +kernel
theorem dX1_mayStandFor_9 : decode cX1_mayStandFor 9 = .ok (.aload_n 0, 1) := by decide +kernel
theorem dX1_mayStandFor_10 : decode cX1_mayStandFor 10 = .ok (.getfield 23, 3) := by decide +kernel
theorem dX1_mayStandFor_13 : decode cX1_mayStandFor 13 = .ok (.iload_n 1, 1) := by decide +kernel
theorem dX1_mayStandFor_14 : decode cX1_mayStandFor 14 = .ok (.iaload, 1) := by decide +kernel
theorem dX1_mayStandFor_15 : decode cX1_mayStandFor 15 = .ok (.iload_n 2, 1) := by decide +kernel
theorem dX1_mayStandFor_16 : decode cX1_mayStandFor 16 = .ok (.invokestatic 76, 3) := by decide +kernel
theorem dX1_mayStandFor_19 : decode cX1_mayStandFor 19 = .ok (.ifCond .eq 7, 3) := by decide +kernel
theorem dX1_mayStandFor_22 : decode cX1_mayStandFor 22 = .ok (.iconst 1, 1) := by decide +kernel
theorem dX1_mayStandFor_23 : decode cX1_mayStandFor 23 = .ok (.goto 4, 3) := by decide +kernel
theorem dX1_mayStandFor_26 : decode cX1_mayStandFor 26 = .ok (.iconst 0, 1) := by decide +kernel
theorem dX1_mayStandFor_27 : decode cX1_mayStandFor 27 = .ok (.ireturn, 1) := by decide +kernel
set_option maxRecDepth 20000 in
theorem ggX1_mayJoin_X1_arePair : GoodIn wsX1_mayJoin wsX1_arePair := goodIn_r _ [6, 7, 8, 9, 10, 5, 11, 12, 13, 14, 15, 19, 20, 21, 22, 23, 24, 25, 26, 27, 28, 29, 30, 31, 32, 33, 34] (by decide +kernel) (by decide +kernel)
set_option maxRecDepth 20000 in
theorem gX1_mayJoin_X1_arePair : GoodIn wsX1_mayJoin (wsV RX1 103 RX1 yX1_arePair wsX1_arePair) := goodIn_app (goodIn_of _ (by decide +kernel)) ggX1_mayJoin_X1_arePair
set_option maxRecDepth 20000 in
theorem ggX1_mayJoin_X1_has : GoodIn wsX1_mayJoin wsX1_has := goodIn_r _ [18] (by decide +kernel) (by decide +kernel)
set_option maxRecDepth 20000 in
theorem gX1_mayJoin_X1_has : GoodIn wsX1_mayJoin (va_wsS RX1 76 yX1_has wsX1_has) := goodIn_app (goodIn_of _ (by decide +kernel)) ggX1_mayJoin_X1_has
theorem dX1_mayJoin_0 : decode cX1_mayJoin 0 = .ok (.aload_n 0, 1) := by decide +kernel
theorem dX1_mayJoin_1 : decode cX1_mayJoin 1 = .ok (.iload_n 1, 1) := by decide +kernel
theorem dX1_mayJoin_2 : decode cX1_mayJoin 2 = .ok (.iload_n 2, 1) := by decide +kernel
theorem dX1_mayJoin_3 : decode cX1_mayJoin 3 = .ok (.invokevirtual 103, 3) := by decide +kernel
theorem dX1_mayJoin_6 : decode cX1_mayJoin 6 = .ok (.ifCond .eq 20, 3) := by decide +kernel
theorem dX1_mayJoin_9 : decode cX1_mayJoin 9 = .ok (.aload_n 0, 1) := by decide +kernel
theorem dX1_mayJoin_10 : decode cX1_mayJoin 10 = .ok (.getfield 26, 3) := by decide +kernel
theorem dX1_mayJoin_13 : decode cX1_mayJoin 13 = .ok (.iload_n 1, 1) := by decide +kernel
theorem dX1_mayJoin_14 : decode cX1_mayJoin 14 = .ok (.iaload, 1) := by decide +kernel
theorem dX1_mayJoin_15 : decode cX1_mayJoin 15 = .ok (.iload_n 2, 1) := by decide +kernel
theorem dX1_mayJoin_16 : decode cX1_mayJoin 16 = .ok (.invokestatic 76, 3) := by decide +kernel
theorem dX1_mayJoin_19 : decode cX1_mayJoin 19 = .ok (.ifCond .eq 7, 3) := by decide +kernel
theorem dX1_mayJoin_22 : decode cX1_mayJoin 22 = .ok (.iconst 1, 1) := by decide +kernel
theorem dX1_mayJoin_23 : decode cX1_mayJoin 23 = .ok (.goto 4, 3) := by decide +kernel
theorem dX1_mayJoin_26 : decode cX1_mayJoin 26 = .ok (.iconst 0, 1) := by decide +kernel
theorem dX1_mayJoin_27 : decode cX1_mayJoin 27 = .ok (.ireturn, 1) := by decide +kernel
theorem dX1_standIns_0 : decode cX1_standIns 0 = .ok (.iconst 0, 1) := by decide +kernel
theorem dX1_standIns_1 : decode cX1_standIns 1 = .ok (.istore_n 2, 1) := by decide +kernel
theorem dX1_standIns_2 : decode cX1_standIns 2 = .ok (.iconst 0, 1) := by decide +kernel
theorem dX1_standIns_3 : decode cX1_standIns 3 = .ok (.istore_n 3, 1) := by decide +kernel
theorem dX1_standIns_4 : decode cX1_standIns 4 = .ok (.iload_n 3, 1) := by decide +kernel
theorem dX1_standIns_5 : decode cX1_standIns 5 = .ok (.aload_n 0, 1) := by decide +kernel
theorem dX1_standIns_6 : decode cX1_standIns 6 = .ok (.getfield 48, 3) := by decide +kernel
theorem dX1_standIns_9 : decode cX1_standIns 9 = .ok (.if_icmp .ge 22, 3) := by decide +kernel
theorem dX1_standIns_12 : decode cX1_standIns 12 = .ok (.iload_n 2, 1) := by decide +kernel
theorem dX1_standIns_13 : decode cX1_standIns 13 = .ok (.aload_n 0, 1) := by decide +kernel
theorem dX1_standIns_14 : decode cX1_standIns 14 = .ok (.getfield 23, 3) := by decide +kernel
theorem dX1_standIns_17 : decode cX1_standIns 17 = .ok (.iload_n 1, 1) := by decide +kernel
theorem dX1_standIns_18 : decode cX1_standIns 18 = .ok (.iaload, 1) := by decide +kernel
theorem dX1_standIns_19 : decode cX1_standIns 19 = .ok (.iload_n 3, 1) := by decide +kernel
theorem dX1_standIns_20 : decode cX1_standIns 20 = .ok (.ishr, 1) := by decide +kernel
theorem dX1_standIns_21 : decode cX1_standIns 21 = .ok (.iconst 1, 1) := by decide +kernel
theorem dX1_standIns_22 : decode cX1_standIns 22 = .ok (.iand, 1) := by decide +kernel
theorem dX1_standIns_23 : decode cX1_standIns 23 = .ok (.iadd, 1) := by decide +kernel
theorem dX1_standIns_24 : decode cX1_standIns 24 = .ok (.istore_n 2, 1) := by decide +kernel
theorem dX1_standIns_25 : decode cX1_standIns 25 = .ok (.iinc 3 1, 3) := by decide +kernel
theorem dX1_standIns_28 : decode cX1_standIns 28 = .ok (.goto (-24), 3) := by decide +kernel
theorem dX1_standIns_31 : decode cX1_standIns 31 = .ok (.iload_n 2, 1) := by decide +kernel
theorem dX1_standIns_32 : decode cX1_standIns 32 = .ok (.ireturn, 1) := by decide +kernel
set_option maxRecDepth 20000 in
theorem ggX1_standInsOf_X1_isWord : GoodIn wsX1_standInsOf wsX1_isWord := goodIn_r _ [6, 7, 8, 9, 5, 10, 20, 21, 22, 23, 24, 25, 26, 27, 28, 29, 30, 31, 32, 33, 34, 35] (by decide +kernel) (by decide +kernel)
set_option maxRecDepth 20000 in
theorem gX1_standInsOf_X1_isWord : GoodIn wsX1_standInsOf (wsV RX1 58 RX1 yX1_isWord wsX1_isWord) := goodIn_app (goodIn_of _ (by decide +kernel)) ggX1_standInsOf_X1_isWord
set_option maxRecDepth 20000 in
theorem ggX1_standInsOf_X1_standIns : GoodIn wsX1_standInsOf wsX1_standIns := goodIn_r _ [14, 7, 15, 20, 21, 22, 23, 24, 25, 26, 27, 28, 29, 30, 31, 32, 33, 34, 35] (by decide +kernel) (by decide +kernel)
set_option maxRecDepth 20000 in
theorem gX1_standInsOf_X1_standIns : GoodIn wsX1_standInsOf (wsV RX1 136 RX1 yX1_standIns wsX1_standIns) := goodIn_app (goodIn_of _ (by decide +kernel)) ggX1_standInsOf_X1_standIns
set_option maxRecDepth 20000 in
theorem ggX1_standInsOf_X1_fail : GoodIn wsX1_standInsOf wsX1_fail := goodIn_r _ [19, 1, 20, 21, 22, 23, 24, 25, 26, 27, 28, 29, 30, 31, 32, 33, 34, 35] (by decide +kernel) (by decide +kernel)
set_option maxRecDepth 20000 in
theorem gX1_standInsOf_X1_fail : GoodIn wsX1_standInsOf (wsV RX1 100 RX1 yX1_fail wsX1_fail) := goodIn_app (goodIn_of _ (by decide +kernel)) ggX1_standInsOf_X1_fail
theorem dX1_standInsOf_0 : decode cX1_standInsOf 0 = .ok (.aload_n 0, 1) := by decide +kernel
theorem dX1_standInsOf_1 : decode cX1_standInsOf 1 = .ok (.iconst 0, 1) := by decide +kernel
theorem dX1_standInsOf_2 : decode cX1_standInsOf 2 = .ok (.putfield 45, 3) := by decide +kernel
theorem dX1_standInsOf_5 : decode cX1_standInsOf 5 = .ok (.aload_n 0, 1) := by decide +kernel
theorem dX1_standInsOf_6 : decode cX1_standInsOf 6 = .ok (.iload_n 1, 1) := by decide +kernel
theorem dX1_standInsOf_7 : decode cX1_standInsOf 7 = .ok (.invokevirtual 58, 3) := by decide +kernel
theorem dX1_standInsOf_10 : decode cX1_standInsOf 10 = .ok (.ifCond .eq 11, 3) := by decide +kernel
theorem dX1_standInsOf_13 : decode cX1_standInsOf 13 = .ok (.aload_n 0, 1) := by decide +kernel
theorem dX1_standInsOf_14 : decode cX1_standInsOf 14 = .ok (.iload_n 1, 1) := by decide +kernel
theorem dX1_standInsOf_15 : decode cX1_standInsOf 15 = .ok (.invokevirtual 136, 3) := by decide +kernel
theorem dX1_standInsOf_18 : decode cX1_standInsOf 18 = .ok (.goto 8, 3) := by decide +kernel
theorem dX1_standInsOf_21 : decode cX1_standInsOf 21 = .ok (.aload_n 0, 1) := by decide +kernel
theorem dX1_standInsOf_22 : decode cX1_standInsOf 22 = .ok (.iconst 1, 1) := by decide +kernel
theorem dX1_standInsOf_23 : decode cX1_standInsOf 23 = .ok (.invokevirtual 100, 3) := by decide +kernel
theorem dX1_standInsOf_26 : decode cX1_standInsOf 26 = .ok (.ireturn, 1) := by decide +kernel
set_option maxRecDepth 20000 in
theorem ggX1_limit_X1_told : GoodIn wsX1_limit wsX1_told := goodIn_r _ [6, 7, 8, 9, 10, 11, 12, 13, 14, 15, 16, 17, 18, 19, 20, 21, 22, 23] (by decide +kernel) (by decide +kernel)
set_option maxRecDepth 20000 in
theorem gX1_limit_X1_told : GoodIn wsX1_limit (wsV RX1 133 RX1 yX1_told wsX1_told) := goodIn_app (goodIn_of _ (by decide +kernel)) ggX1_limit_X1_told
theorem dX1_limit_0 : decode cX1_limit 0 = .ok (.aload_n 0, 1) := by decide +kernel
theorem dX1_limit_1 : decode cX1_limit 1 = .ok (.aload_n 0, 1) := by decide +kernel
theorem dX1_limit_2 : decode cX1_limit 2 = .ok (.getfield 7, 3) := by decide +kernel
theorem dX1_limit_5 : decode cX1_limit 5 = .ok (.invokevirtual 133, 3) := by decide +kernel
theorem dX1_limit_8 : decode cX1_limit 8 = .ok (.ireturn, 1) := by decide +kernel
set_option maxRecDepth 20000 in
theorem ggX1_leastCount_X1_told : GoodIn wsX1_leastCount wsX1_told := goodIn_r _ [6, 7, 8, 9, 10, 11, 12, 13, 14, 15, 16, 17, 18, 19, 20, 21, 22, 23] (by decide +kernel) (by decide +kernel)
set_option maxRecDepth 20000 in
theorem gX1_leastCount_X1_told : GoodIn wsX1_leastCount (wsV RX1 133 RX1 yX1_told wsX1_told) := goodIn_app (goodIn_of _ (by decide +kernel)) ggX1_leastCount_X1_told
theorem dX1_leastCount_0 : decode cX1_leastCount 0 = .ok (.aload_n 0, 1) := by decide +kernel
theorem dX1_leastCount_1 : decode cX1_leastCount 1 = .ok (.aload_n 0, 1) := by decide +kernel
theorem dX1_leastCount_2 : decode cX1_leastCount 2 = .ok (.getfield 13, 3) := by decide +kernel
theorem dX1_leastCount_5 : decode cX1_leastCount 5 = .ok (.invokevirtual 133, 3) := by decide +kernel
theorem dX1_leastCount_8 : decode cX1_leastCount 8 = .ok (.ireturn, 1) := by decide +kernel
set_option maxRecDepth 20000 in
theorem ggX1_coins_X1_told : GoodIn wsX1_coins wsX1_told := goodIn_r _ [6, 7, 8, 9, 10, 11, 12, 13, 14, 15, 16, 17, 18, 19, 20, 21, 22, 23] (by decide +kernel) (by decide +kernel)
set_option maxRecDepth 20000 in
theorem gX1_coins_X1_told : GoodIn wsX1_coins (wsV RX1 133 RX1 yX1_told wsX1_told) := goodIn_app (goodIn_of _ (by decide +kernel)) ggX1_coins_X1_told
theorem dX1_coins_0 : decode cX1_coins 0 = .ok (.aload_n 0, 1) := by decide +kernel
theorem dX1_coins_1 : decode cX1_coins 1 = .ok (.aload_n 0, 1) := by decide +kernel
theorem dX1_coins_2 : decode cX1_coins 2 = .ok (.getfield 16, 3) := by decide +kernel
theorem dX1_coins_5 : decode cX1_coins 5 = .ok (.invokevirtual 133, 3) := by decide +kernel
theorem dX1_coins_8 : decode cX1_coins 8 = .ok (.ireturn, 1) := by decide +kernel
set_option maxRecDepth 20000 in
theorem ggX1_length_X1_told : GoodIn wsX1_length wsX1_told := goodIn_r _ [6, 7, 8, 9, 10, 11, 12, 13, 14, 15, 16, 17, 18, 19, 20, 21, 22, 23] (by decide +kernel) (by decide +kernel)
set_option maxRecDepth 20000 in
theorem gX1_length_X1_told : GoodIn wsX1_length (wsV RX1 133 RX1 yX1_told wsX1_told) := goodIn_app (goodIn_of _ (by decide +kernel)) ggX1_length_X1_told
theorem dX1_length_0 : decode cX1_length 0 = .ok (.aload_n 0, 1) := by decide +kernel
theorem dX1_length_1 : decode cX1_length 1 = .ok (.aload_n 0, 1) := by decide +kernel
theorem dX1_length_2 : decode cX1_length 2 = .ok (.getfield 55, 3) := by decide +kernel
theorem dX1_length_5 : decode cX1_length 5 = .ok (.invokevirtual 133, 3) := by decide +kernel
theorem dX1_length_8 : decode cX1_length 8 = .ok (.ireturn, 1) := by decide +kernel
set_option maxRecDepth 20000 in
theorem ggX1_wordAt_X1_isPlace : GoodIn wsX1_wordAt wsX1_isPlace := goodIn_r _ [7, 8, 9, 10, 6, 11, 16, 17, 18, 19, 20, 21, 22, 23, 24, 25, 26, 27, 28, 29, 30, 31] (by decide +kernel) (by decide +kernel)
set_option maxRecDepth 20000 in
theorem gX1_wordAt_X1_isPlace : GoodIn wsX1_wordAt (wsV RX1 109 RX1 yX1_isPlace wsX1_isPlace) := goodIn_app (goodIn_of _ (by decide +kernel)) ggX1_wordAt_X1_isPlace
set_option maxRecDepth 20000 in
theorem ggX1_wordAt_X1_fail : GoodIn wsX1_wordAt wsX1_fail := goodIn_r _ [15, 1, 16, 17, 18, 19, 20, 21, 22, 23, 24, 25, 26, 27, 28, 29, 30, 31] (by decide +kernel) (by decide +kernel)
set_option maxRecDepth 20000 in
theorem gX1_wordAt_X1_fail : GoodIn wsX1_wordAt (wsV RX1 100 RX1 yX1_fail wsX1_fail) := goodIn_app (goodIn_of _ (by decide +kernel)) ggX1_wordAt_X1_fail
theorem dX1_wordAt_0 : decode cX1_wordAt 0 = .ok (.aload_n 0, 1) := by decide +kernel
theorem dX1_wordAt_1 : decode cX1_wordAt 1 = .ok (.iconst 0, 1) := by decide +kernel
theorem dX1_wordAt_2 : decode cX1_wordAt 2 = .ok (.putfield 45, 3) := by decide +kernel
theorem dX1_wordAt_5 : decode cX1_wordAt 5 = .ok (.aload_n 0, 1) := by decide +kernel
theorem dX1_wordAt_6 : decode cX1_wordAt 6 = .ok (.iload_n 1, 1) := by decide +kernel
theorem dX1_wordAt_7 : decode cX1_wordAt 7 = .ok (.invokevirtual 109, 3) := by decide +kernel
theorem dX1_wordAt_10 : decode cX1_wordAt 10 = .ok (.ifCond .eq 12, 3) := by decide +kernel
theorem dX1_wordAt_13 : decode cX1_wordAt 13 = .ok (.aload_n 0, 1) := by decide +kernel
theorem dX1_wordAt_14 : decode cX1_wordAt 14 = .ok (.getfield 29, 3) := by decide +kernel
theorem dX1_wordAt_17 : decode cX1_wordAt 17 = .ok (.iload_n 1, 1) := by decide +kernel
theorem dX1_wordAt_18 : decode cX1_wordAt 18 = .ok (.iaload, 1) := by decide +kernel
theorem dX1_wordAt_19 : decode cX1_wordAt 19 = .ok (.goto 8, 3) := by decide +kernel
theorem dX1_wordAt_22 : decode cX1_wordAt 22 = .ok (.aload_n 0, 1) := by decide +kernel
theorem dX1_wordAt_23 : decode cX1_wordAt 23 = .ok (.iconst 1, 1) := by decide +kernel
theorem dX1_wordAt_24 : decode cX1_wordAt 24 = .ok (.invokevirtual 100, 3) := by decide +kernel
theorem dX1_wordAt_27 : decode cX1_wordAt 27 = .ok (.ireturn, 1) := by decide +kernel
set_option maxRecDepth 20000 in
theorem ggX1_isJoined_X1_isPlace : GoodIn wsX1_isJoined wsX1_isPlace := goodIn_r _ [7, 8, 9, 10, 6, 11, 16, 17, 18, 19, 20, 21, 22, 23, 24, 25, 26, 27, 28, 29, 30, 31] (by decide +kernel) (by decide +kernel)
set_option maxRecDepth 20000 in
theorem gX1_isJoined_X1_isPlace : GoodIn wsX1_isJoined (wsV RX1 109 RX1 yX1_isPlace wsX1_isPlace) := goodIn_app (goodIn_of _ (by decide +kernel)) ggX1_isJoined_X1_isPlace
set_option maxRecDepth 20000 in
theorem ggX1_isJoined_X1_failed : GoodIn wsX1_isJoined wsX1_failed := goodIn_r _ [15, 1, 16, 17, 18, 19, 20, 21, 22, 23, 24, 25, 26, 27, 28, 29, 30, 31] (by decide +kernel) (by decide +kernel)
set_option maxRecDepth 20000 in
theorem gX1_isJoined_X1_failed : GoodIn wsX1_isJoined (wsV RX1 106 RX1 yX1_failed wsX1_failed) := goodIn_app (goodIn_of _ (by decide +kernel)) ggX1_isJoined_X1_failed
theorem dX1_isJoined_0 : decode cX1_isJoined 0 = .ok (.aload_n 0, 1) := by decide +kernel
theorem dX1_isJoined_1 : decode cX1_isJoined 1 = .ok (.iconst 0, 1) := by decide +kernel
theorem dX1_isJoined_2 : decode cX1_isJoined 2 = .ok (.putfield 45, 3) := by decide +kernel
theorem dX1_isJoined_5 : decode cX1_isJoined 5 = .ok (.aload_n 0, 1) := by decide +kernel
theorem dX1_isJoined_6 : decode cX1_isJoined 6 = .ok (.iload_n 1, 1) := by decide +kernel
theorem dX1_isJoined_7 : decode cX1_isJoined 7 = .ok (.invokevirtual 109, 3) := by decide +kernel
theorem dX1_isJoined_10 : decode cX1_isJoined 10 = .ok (.ifCond .eq 12, 3) := by decide +kernel
theorem dX1_isJoined_13 : decode cX1_isJoined 13 = .ok (.aload_n 0, 1) := by decide +kernel
theorem dX1_isJoined_14 : decode cX1_isJoined 14 = .ok (.getfield 32, 3) := by decide +kernel
theorem dX1_isJoined_17 : decode cX1_isJoined 17 = .ok (.iload_n 1, 1) := by decide +kernel
theorem dX1_isJoined_18 : decode cX1_isJoined 18 = .ok (.baload, 1) := by decide +kernel
theorem dX1_isJoined_19 : decode cX1_isJoined 19 = .ok (.goto 8, 3) := by decide +kernel
theorem dX1_isJoined_22 : decode cX1_isJoined 22 = .ok (.aload_n 0, 1) := by decide +kernel
theorem dX1_isJoined_23 : decode cX1_isJoined 23 = .ok (.iconst 1, 1) := by decide +kernel
theorem dX1_isJoined_24 : decode cX1_isJoined 24 = .ok (.invokevirtual 106, 3) := by decide +kernel
theorem dX1_isJoined_27 : decode cX1_isJoined 27 = .ok (.ireturn, 1) := by decide +kernel
set_option maxRecDepth 20000 in
theorem ggX1_count_X1_countNow : GoodIn wsX1_count wsX1_countNow := goodIn_r _ [5, 6, 7, 8, 9, 10, 11, 12, 4, 13, 14, 15, 16, 17, 18, 19, 20, 21, 22, 23, 29, 30, 31, 32, 33, 34, 35, 36, 37, 38, 39, 40, 41, 42, 43, 44] (by decide +kernel) (by decide +kernel)
set_option maxRecDepth 20000 in
theorem gX1_count_X1_countNow : GoodIn wsX1_count (wsV RX1 112 RX1 yX1_countNow wsX1_countNow) := goodIn_app (goodIn_of _ (by decide +kernel)) ggX1_count_X1_countNow
set_option maxRecDepth 20000 in
theorem ggX1_count_X1_told : GoodIn wsX1_count wsX1_told := goodIn_r _ [27, 28, 29, 30, 31, 32, 33, 34, 35, 36, 37, 38, 39, 40, 41, 42, 43, 44] (by decide +kernel) (by decide +kernel)
set_option maxRecDepth 20000 in
theorem gX1_count_X1_told : GoodIn wsX1_count (wsV RX1 133 RX1 yX1_told wsX1_told) := goodIn_app (goodIn_of _ (by decide +kernel)) ggX1_count_X1_told
theorem dX1_count_0 : decode cX1_count 0 = .ok (.aload_n 0, 1) := by decide +kernel
theorem dX1_count_1 : decode cX1_count 1 = .ok (.aload_n 0, 1) := by decide +kernel
theorem dX1_count_2 : decode cX1_count 2 = .ok (.invokevirtual 112, 3) := by decide +kernel
theorem dX1_count_5 : decode cX1_count 5 = .ok (.invokevirtual 133, 3) := by decide +kernel
theorem dX1_count_8 : decode cX1_count 8 = .ok (.ireturn, 1) := by decide +kernel
set_option maxRecDepth 20000 in
theorem ggX1_price_X1_countNow : GoodIn wsX1_price wsX1_countNow := goodIn_r _ [6, 7, 8, 9, 10, 11, 12, 13, 5, 14, 15, 16, 17, 18, 19, 20, 21, 22, 23, 24, 30, 31, 32, 33, 34, 35, 36, 37, 38, 39, 40, 41, 42, 43, 44, 45] (by decide +kernel) (by decide +kernel)
set_option maxRecDepth 20000 in
theorem gX1_price_X1_countNow : GoodIn wsX1_price (wsV RX1 112 RX1 yX1_countNow wsX1_countNow) := goodIn_app (goodIn_of _ (by decide +kernel)) ggX1_price_X1_countNow
set_option maxRecDepth 20000 in
theorem ggX1_price_X1_told : GoodIn wsX1_price wsX1_told := goodIn_r _ [28, 29, 30, 31, 32, 33, 34, 35, 36, 37, 38, 39, 40, 41, 42, 43, 44, 45] (by decide +kernel) (by decide +kernel)
set_option maxRecDepth 20000 in
theorem gX1_price_X1_told : GoodIn wsX1_price (wsV RX1 133 RX1 yX1_told wsX1_told) := goodIn_app (goodIn_of _ (by decide +kernel)) ggX1_price_X1_told
theorem dX1_price_0 : decode cX1_price 0 = .ok (.aload_n 0, 1) := by decide +kernel
theorem dX1_price_1 : decode cX1_price 1 = .ok (.aload_n 0, 1) := by decide +kernel
theorem dX1_price_2 : decode cX1_price 2 = .ok (.invokevirtual 112, 3) := by decide +kernel
theorem dX1_price_5 : decode cX1_price 5 = .ok (.aload_n 0, 1) := by decide +kernel
theorem dX1_price_6 : decode cX1_price 6 = .ok (.getfield 16, 3) := by decide +kernel
theorem dX1_price_9 : decode cX1_price 9 = .ok (.imul, 1) := by decide +kernel
theorem dX1_price_10 : decode cX1_price 10 = .ok (.invokevirtual 133, 3) := by decide +kernel
theorem dX1_price_13 : decode cX1_price 13 = .ok (.ireturn, 1) := by decide +kernel
set_option maxRecDepth 20000 in
theorem ggX1_priceTo_X1_isIn : GoodIn wsX1_priceTo wsX1_isIn := goodIn_r _ [5] (by decide +kernel) (by decide +kernel)
set_option maxRecDepth 20000 in
theorem gX1_priceTo_X1_isIn : GoodIn wsX1_priceTo (va_wsS RX1 51 yX1_isIn wsX1_isIn) := goodIn_app (goodIn_of _ (by decide +kernel)) ggX1_priceTo_X1_isIn
set_option maxRecDepth 20000 in
theorem ggX1_priceTo_X1_costTo : GoodIn wsX1_priceTo wsX1_costTo := goodIn_r _ [9, 10, 11, 12, 13, 4, 14, 15, 16, 17, 18, 19, 20, 21, 22, 23, 24, 25, 26, 27, 28, 29, 30, 31, 32, 37, 38, 39, 40, 41, 42, 43, 44, 45, 46, 47, 48, 49, 50, 51, 52] (by decide +kernel) (by decide +kernel)
set_option maxRecDepth 20000 in
theorem gX1_priceTo_X1_costTo : GoodIn wsX1_priceTo (wsV RX1 124 RX1 yX1_costTo wsX1_costTo) := goodIn_app (goodIn_of _ (by decide +kernel)) ggX1_priceTo_X1_costTo
set_option maxRecDepth 20000 in
theorem ggX1_priceTo_X1_fail : GoodIn wsX1_priceTo wsX1_fail := goodIn_r _ [36, 1, 37, 38, 39, 40, 41, 42, 43, 44, 45, 46, 47, 48, 49, 50, 51, 52] (by decide +kernel) (by decide +kernel)
set_option maxRecDepth 20000 in
theorem gX1_priceTo_X1_fail : GoodIn wsX1_priceTo (wsV RX1 100 RX1 yX1_fail wsX1_fail) := goodIn_app (goodIn_of _ (by decide +kernel)) ggX1_priceTo_X1_fail
theorem dX1_priceTo_0 : decode cX1_priceTo 0 = .ok (.aload_n 0, 1) := by decide +kernel
theorem dX1_priceTo_1 : decode cX1_priceTo 1 = .ok (.iconst 0, 1) := by decide +kernel
theorem dX1_priceTo_2 : decode cX1_priceTo 2 = .ok (.putfield 45, 3) := by decide +kernel
theorem dX1_priceTo_5 : decode cX1_priceTo 5 = .ok (.iload_n 1, 1) := by decide +kernel
theorem dX1_priceTo_6 : decode cX1_priceTo 6 = .ok (.iconst 0, 1) := by decide +kernel
theorem dX1_priceTo_7 : decode cX1_priceTo 7 = .ok (.iconst 3, 1) := by decide +kernel
theorem dX1_priceTo_8 : decode cX1_priceTo 8 = .ok (.invokestatic 51, 3) := by decide +kernel
theorem dX1_priceTo_11 : decode cX1_priceTo 11 = .ok (.ifCond .eq 11, 3) := by decide +kernel
theorem dX1_priceTo_14 : decode cX1_priceTo 14 = .ok (.aload_n 0, 1) := by decide +kernel
theorem dX1_priceTo_15 : decode cX1_priceTo 15 = .ok (.iload_n 1, 1) := by decide +kernel
theorem dX1_priceTo_16 : decode cX1_priceTo 16 = .ok (.invokevirtual 124, 3) := by decide +kernel
theorem dX1_priceTo_19 : decode cX1_priceTo 19 = .ok (.goto 8, 3) := by decide +kernel
theorem dX1_priceTo_22 : decode cX1_priceTo 22 = .ok (.aload_n 0, 1) := by decide +kernel
theorem dX1_priceTo_23 : decode cX1_priceTo 23 = .ok (.iconst 1, 1) := by decide +kernel
theorem dX1_priceTo_24 : decode cX1_priceTo 24 = .ok (.invokevirtual 100, 3) := by decide +kernel
theorem dX1_priceTo_27 : decode cX1_priceTo 27 = .ok (.ireturn, 1) := by decide +kernel
set_option maxRecDepth 20000 in
theorem ggX1_sent_X1_told : GoodIn wsX1_sent wsX1_told := goodIn_r _ [6, 7, 8, 9, 10, 11, 12, 13, 14, 15, 16, 17, 18, 19, 20, 21, 22, 23] (by decide +kernel) (by decide +kernel)
set_option maxRecDepth 20000 in
theorem gX1_sent_X1_told : GoodIn wsX1_sent (wsV RX1 133 RX1 yX1_told wsX1_told) := goodIn_app (goodIn_of _ (by decide +kernel)) ggX1_sent_X1_told
theorem dX1_sent_0 : decode cX1_sent 0 = .ok (.aload_n 0, 1) := by decide +kernel
theorem dX1_sent_1 : decode cX1_sent 1 = .ok (.aload_n 0, 1) := by decide +kernel
theorem dX1_sent_2 : decode cX1_sent 2 = .ok (.getfield 127, 3) := by decide +kernel
theorem dX1_sent_5 : decode cX1_sent 5 = .ok (.invokevirtual 133, 3) := by decide +kernel
theorem dX1_sent_8 : decode cX1_sent 8 = .ok (.ireturn, 1) := by decide +kernel
set_option maxRecDepth 20000 in
theorem ggX1_earned_X1_told : GoodIn wsX1_earned wsX1_told := goodIn_r _ [6, 7, 8, 9, 10, 11, 12, 13, 14, 15, 16, 17, 18, 19, 20, 21, 22, 23] (by decide +kernel) (by decide +kernel)
set_option maxRecDepth 20000 in
theorem gX1_earned_X1_told : GoodIn wsX1_earned (wsV RX1 133 RX1 yX1_told wsX1_told) := goodIn_app (goodIn_of _ (by decide +kernel)) ggX1_earned_X1_told
theorem dX1_earned_0 : decode cX1_earned 0 = .ok (.aload_n 0, 1) := by decide +kernel
theorem dX1_earned_1 : decode cX1_earned 1 = .ok (.aload_n 0, 1) := by decide +kernel
theorem dX1_earned_2 : decode cX1_earned 2 = .ok (.getfield 130, 3) := by decide +kernel
theorem dX1_earned_5 : decode cX1_earned 5 = .ok (.invokevirtual 133, 3) := by decide +kernel
theorem dX1_earned_8 : decode cX1_earned 8 = .ok (.ireturn, 1) := by decide +kernel
set_option maxRecDepth 20000 in
theorem ggX1_cheapestCount_X1_reckon : GoodIn wsX1_cheapestCount wsX1_reckon := goodIn_r _ [5, 6, 7, 8, 9, 10, 11, 12, 13, 14, 4, 15, 16, 17, 18, 19, 20, 21, 22, 23, 24, 25, 26, 27, 28, 29, 30, 31, 32, 33, 47, 48, 49, 50, 51, 52, 53, 54, 55, 56, 57, 58, 59, 60, 61, 62] (by decide +kernel) (by decide +kernel)
set_option maxRecDepth 20000 in
theorem gX1_cheapestCount_X1_reckon : GoodIn wsX1_cheapestCount (wsV RX1 89 RX1 yX1_reckon wsX1_reckon) := goodIn_app (goodIn_of _ (by decide +kernel)) ggX1_cheapestCount_X1_reckon
set_option maxRecDepth 20000 in
theorem ggX1_cheapestCount_X1_lifted : GoodIn wsX1_cheapestCount wsX1_lifted := goodIn_r _ [37, 7, 38, 39, 40, 10, 41, 47, 48, 49, 50, 51, 52, 53, 54, 55, 56, 57, 58, 59, 60, 61, 62] (by decide +kernel) (by decide +kernel)
set_option maxRecDepth 20000 in
theorem gX1_cheapestCount_X1_lifted : GoodIn wsX1_cheapestCount (wsV RX1 72 RX1 yX1_lifted wsX1_lifted) := goodIn_app (goodIn_of _ (by decide +kernel)) ggX1_cheapestCount_X1_lifted
set_option maxRecDepth 20000 in
theorem ggX1_cheapestCount_X1_told : GoodIn wsX1_cheapestCount wsX1_told := goodIn_r _ [45, 46, 47, 48, 49, 50, 51, 52, 53, 54, 55, 56, 57, 58, 59, 60, 61, 62] (by decide +kernel) (by decide +kernel)
set_option maxRecDepth 20000 in
theorem gX1_cheapestCount_X1_told : GoodIn wsX1_cheapestCount (wsV RX1 133 RX1 yX1_told wsX1_told) := goodIn_app (goodIn_of _ (by decide +kernel)) ggX1_cheapestCount_X1_told
theorem dX1_cheapestCount_0 : decode cX1_cheapestCount 0 = .ok (.aload_n 0, 1) := by decide +kernel
theorem dX1_cheapestCount_1 : decode cX1_cheapestCount 1 = .ok (.aload_n 0, 1) := by decide +kernel
theorem dX1_cheapestCount_2 : decode cX1_cheapestCount 2 = .ok (.aload_n 0, 1) := by decide +kernel
theorem dX1_cheapestCount_3 : decode cX1_cheapestCount 3 = .ok (.invokevirtual 89, 3) := by decide +kernel
theorem dX1_cheapestCount_6 : decode cX1_cheapestCount 6 = .ok (.invokevirtual 72, 3) := by decide +kernel
theorem dX1_cheapestCount_9 : decode cX1_cheapestCount 9 = .ok (.invokevirtual 133, 3) := by decide +kernel
theorem dX1_cheapestCount_12 : decode cX1_cheapestCount 12 = .ok (.ireturn, 1) := by decide +kernel
set_option maxRecDepth 20000 in
theorem ggX1_cheapestWordAt_X1_isPlace : GoodIn wsX1_cheapestWordAt wsX1_isPlace := goodIn_r _ [7, 8, 9, 10, 6, 11, 60, 61, 62, 63, 64, 65, 66, 67, 68, 69, 70, 71, 72, 73, 74, 75] (by decide +kernel) (by decide +kernel)
set_option maxRecDepth 20000 in
theorem gX1_cheapestWordAt_X1_isPlace : GoodIn wsX1_cheapestWordAt (wsV RX1 109 RX1 yX1_isPlace wsX1_isPlace) := goodIn_app (goodIn_of _ (by decide +kernel)) ggX1_cheapestWordAt_X1_isPlace
set_option maxRecDepth 20000 in
theorem ggX1_cheapestWordAt_X1_fail : GoodIn wsX1_cheapestWordAt wsX1_fail := goodIn_r _ [15, 1, 60, 61, 62, 63, 64, 65, 66, 67, 68, 69, 70, 71, 72, 73, 74, 75] (by decide +kernel) (by decide +kernel)
set_option maxRecDepth 20000 in
theorem gX1_cheapestWordAt_X1_fail : GoodIn wsX1_cheapestWordAt (wsV RX1 100 RX1 yX1_fail wsX1_fail) := goodIn_app (goodIn_of _ (by decide +kernel)) ggX1_cheapestWordAt_X1_fail
set_option maxRecDepth 20000 in
theorem ggX1_cheapestWordAt_X1_choose : GoodIn wsX1_cheapestWordAt wsX1_choose := goodIn_r _ [19, 8, 20, 2, 21, 22, 23, 6, 24, 25, 26, 27, 28, 29, 30, 31, 32, 33, 34, 35, 36, 37, 38, 39, 40, 41, 42, 43, 44, 45, 46, 47, 48, 49, 50, 51, 52, 53, 54, 55, 56, 57, 58, 59, 60, 61, 62, 63, 64, 65, 66, 67, 68, 69, 70, 71, 72, 73, 74, 75] (by decide +kernel) (by decide +kernel)
set_option maxRecDepth 20000 in
theorem gX1_cheapestWordAt_X1_choose : GoodIn wsX1_cheapestWordAt (wsV RX1 115 RX1 yX1_choose wsX1_choose) := goodIn_app (goodIn_of _ (by decide +kernel)) ggX1_cheapestWordAt_X1_choose
theorem dX1_cheapestWordAt_0 : decode cX1_cheapestWordAt 0 = .ok (.aload_n 0, 1) := by decide +kernel
theorem dX1_cheapestWordAt_1 : decode cX1_cheapestWordAt 1 = .ok (.iconst 0, 1) := by decide +kernel
theorem dX1_cheapestWordAt_2 : decode cX1_cheapestWordAt 2 = .ok (.putfield 45, 3) := by decide +kernel
theorem dX1_cheapestWordAt_5 : decode cX1_cheapestWordAt 5 = .ok (.aload_n 0, 1) := by decide +kernel
theorem dX1_cheapestWordAt_6 : decode cX1_cheapestWordAt 6 = .ok (.iload_n 1, 1) := by decide +kernel
theorem dX1_cheapestWordAt_7 : decode cX1_cheapestWordAt 7 = .ok (.invokevirtual 109, 3) := by decide +kernel
theorem dX1_cheapestWordAt_10 : decode cX1_cheapestWordAt 10 = .ok (.ifCond .ne 9, 3) := by decide +kernel
theorem dX1_cheapestWordAt_13 : decode cX1_cheapestWordAt 13 = .ok (.aload_n 0, 1) := by decide +kernel
theorem dX1_cheapestWordAt_14 : decode cX1_cheapestWordAt 14 = .ok (.iconst 1, 1) := by decide +kernel
theorem dX1_cheapestWordAt_15 : decode cX1_cheapestWordAt 15 = .ok (.invokevirtual 100, 3) := by decide +kernel
theorem dX1_cheapestWordAt_18 : decode cX1_cheapestWordAt 18 = .ok (.ireturn, 1) := by decide +kernel
theorem dX1_cheapestWordAt_19 : decode cX1_cheapestWordAt 19 = .ok (.aload_n 0, 1) := by decide +kernel
theorem dX1_cheapestWordAt_20 : decode cX1_cheapestWordAt 20 = .ok (.invokevirtual 115, 3) := by decide +kernel
theorem dX1_cheapestWordAt_23 : decode cX1_cheapestWordAt 23 = .ok (.aload_n 0, 1) := by decide +kernel
theorem dX1_cheapestWordAt_24 : decode cX1_cheapestWordAt 24 = .ok (.getfield 39, 3) := by decide +kernel
theorem dX1_cheapestWordAt_27 : decode cX1_cheapestWordAt 27 = .ok (.iload_n 1, 1) := by decide +kernel
theorem dX1_cheapestWordAt_28 : decode cX1_cheapestWordAt 28 = .ok (.iaload, 1) := by decide +kernel
theorem dX1_cheapestWordAt_29 : decode cX1_cheapestWordAt 29 = .ok (.ireturn, 1) := by decide +kernel
set_option maxRecDepth 20000 in
theorem ggX1_isJoinedInCheapest_X1_isPlace : GoodIn wsX1_isJoinedInCheapest wsX1_isPlace := goodIn_r _ [7, 8, 9, 10, 6, 11, 60, 61, 62, 63, 64, 65, 66, 67, 68, 69, 70, 71, 72, 73, 74, 75] (by decide +kernel) (by decide +kernel)
set_option maxRecDepth 20000 in
theorem gX1_isJoinedInCheapest_X1_isPlace : GoodIn wsX1_isJoinedInCheapest (wsV RX1 109 RX1 yX1_isPlace wsX1_isPlace) := goodIn_app (goodIn_of _ (by decide +kernel)) ggX1_isJoinedInCheapest_X1_isPlace
set_option maxRecDepth 20000 in
theorem ggX1_isJoinedInCheapest_X1_failed : GoodIn wsX1_isJoinedInCheapest wsX1_failed := goodIn_r _ [15, 1, 60, 61, 62, 63, 64, 65, 66, 67, 68, 69, 70, 71, 72, 73, 74, 75] (by decide +kernel) (by decide +kernel)
set_option maxRecDepth 20000 in
theorem gX1_isJoinedInCheapest_X1_failed : GoodIn wsX1_isJoinedInCheapest (wsV RX1 106 RX1 yX1_failed wsX1_failed) := goodIn_app (goodIn_of _ (by decide +kernel)) ggX1_isJoinedInCheapest_X1_failed
set_option maxRecDepth 20000 in
theorem ggX1_isJoinedInCheapest_X1_choose : GoodIn wsX1_isJoinedInCheapest wsX1_choose := goodIn_r _ [19, 8, 2, 20, 21, 22, 23, 6, 24, 25, 26, 27, 28, 29, 30, 31, 32, 33, 34, 35, 36, 37, 38, 39, 40, 41, 42, 43, 44, 45, 46, 47, 48, 49, 50, 51, 52, 53, 54, 55, 56, 57, 58, 59, 60, 61, 62, 63, 64, 65, 66, 67, 68, 69, 70, 71, 72, 73, 74, 75] (by decide +kernel) (by decide +kernel)
set_option maxRecDepth 20000 in
theorem gX1_isJoinedInCheapest_X1_choose : GoodIn wsX1_isJoinedInCheapest (wsV RX1 115 RX1 yX1_choose wsX1_choose) := goodIn_app (goodIn_of _ (by decide +kernel)) ggX1_isJoinedInCheapest_X1_choose
theorem dX1_isJoinedInCheapest_0 : decode cX1_isJoinedInCheapest 0 = .ok (.aload_n 0, 1) := by decide +kernel
theorem dX1_isJoinedInCheapest_1 : decode cX1_isJoinedInCheapest 1 = .ok (.iconst 0, 1) := by decide +kernel
theorem dX1_isJoinedInCheapest_2 : decode cX1_isJoinedInCheapest 2 = .ok (.putfield 45, 3) := by decide +kernel
theorem dX1_isJoinedInCheapest_5 : decode cX1_isJoinedInCheapest 5 = .ok (.aload_n 0, 1) := by decide +kernel
theorem dX1_isJoinedInCheapest_6 : decode cX1_isJoinedInCheapest 6 = .ok (.iload_n 1, 1) := by decide +kernel
theorem dX1_isJoinedInCheapest_7 : decode cX1_isJoinedInCheapest 7 = .ok (.invokevirtual 109, 3) := by decide +kernel
theorem dX1_isJoinedInCheapest_10 : decode cX1_isJoinedInCheapest 10 = .ok (.ifCond .ne 9, 3) := by decide +kernel
theorem dX1_isJoinedInCheapest_13 : decode cX1_isJoinedInCheapest 13 = .ok (.aload_n 0, 1) := by decide +kernel
theorem dX1_isJoinedInCheapest_14 : decode cX1_isJoinedInCheapest 14 = .ok (.iconst 1, 1) := by decide +kernel
theorem dX1_isJoinedInCheapest_15 : decode cX1_isJoinedInCheapest 15 = .ok (.invokevirtual 106, 3) := by decide +kernel
theorem dX1_isJoinedInCheapest_18 : decode cX1_isJoinedInCheapest 18 = .ok (.ireturn, 1) := by decide +kernel
theorem dX1_isJoinedInCheapest_19 : decode cX1_isJoinedInCheapest 19 = .ok (.aload_n 0, 1) := by decide +kernel
theorem dX1_isJoinedInCheapest_20 : decode cX1_isJoinedInCheapest 20 = .ok (.invokevirtual 115, 3) := by decide +kernel
theorem dX1_isJoinedInCheapest_23 : decode cX1_isJoinedInCheapest 23 = .ok (.aload_n 0, 1) := by decide +kernel
theorem dX1_isJoinedInCheapest_24 : decode cX1_isJoinedInCheapest 24 = .ok (.getfield 42, 3) := by decide +kernel
theorem dX1_isJoinedInCheapest_27 : decode cX1_isJoinedInCheapest 27 = .ok (.iload_n 1, 1) := by decide +kernel
theorem dX1_isJoinedInCheapest_28 : decode cX1_isJoinedInCheapest 28 = .ok (.baload, 1) := by decide +kernel
theorem dX1_isJoinedInCheapest_29 : decode cX1_isJoinedInCheapest 29 = .ok (.ireturn, 1) := by decide +kernel
set_option maxRecDepth 20000 in
theorem ggX1_saves_X1_countNow : GoodIn wsX1_saves wsX1_countNow := goodIn_r _ [6, 7, 8, 9, 10, 11, 12, 13, 5, 14, 15, 16, 17, 18, 19, 20, 21, 22, 23, 24, 53, 54, 55, 56, 57, 58, 59, 60, 61, 62, 63, 64, 65, 66, 67, 68] (by decide +kernel) (by decide +kernel)
set_option maxRecDepth 20000 in
theorem gX1_saves_X1_countNow : GoodIn wsX1_saves (wsV RX1 112 RX1 yX1_countNow wsX1_countNow) := goodIn_app (goodIn_of _ (by decide +kernel)) ggX1_saves_X1_countNow
set_option maxRecDepth 20000 in
theorem ggX1_saves_X1_reckon : GoodIn wsX1_saves wsX1_reckon := goodIn_r _ [28, 29, 7, 30, 31, 23, 32, 33, 34, 35, 5, 36, 37, 38, 39, 9, 8, 40, 41, 42, 11, 12, 13, 14, 15, 43, 44, 45, 46, 47, 53, 54, 55, 56, 57, 58, 59, 60, 61, 62, 63, 64, 65, 66, 67, 68] (by decide +kernel) (by decide +kernel)
set_option maxRecDepth 20000 in
theorem gX1_saves_X1_reckon : GoodIn wsX1_saves (wsV RX1 89 RX1 yX1_reckon wsX1_reckon) := goodIn_app (goodIn_of _ (by decide +kernel)) ggX1_saves_X1_reckon
set_option maxRecDepth 20000 in
theorem ggX1_saves_X1_lifted : GoodIn wsX1_saves wsX1_lifted := goodIn_r _ [19, 7, 20, 21, 22, 23, 24, 53, 54, 55, 56, 57, 58, 59, 60, 61, 62, 63, 64, 65, 66, 67, 68] (by decide +kernel) (by decide +kernel)
set_option maxRecDepth 20000 in
theorem gX1_saves_X1_lifted : GoodIn wsX1_saves (wsV RX1 72 RX1 yX1_lifted wsX1_lifted) := goodIn_app (goodIn_of _ (by decide +kernel)) ggX1_saves_X1_lifted
set_option maxRecDepth 20000 in
theorem ggX1_saves_X1_told : GoodIn wsX1_saves wsX1_told := goodIn_r _ [51, 52, 53, 54, 55, 56, 57, 58, 59, 60, 61, 62, 63, 64, 65, 66, 67, 68] (by decide +kernel) (by decide +kernel)
set_option maxRecDepth 20000 in
theorem gX1_saves_X1_told : GoodIn wsX1_saves (wsV RX1 133 RX1 yX1_told wsX1_told) := goodIn_app (goodIn_of _ (by decide +kernel)) ggX1_saves_X1_told
theorem dX1_saves_0 : decode cX1_saves 0 = .ok (.aload_n 0, 1) := by decide +kernel
theorem dX1_saves_1 : decode cX1_saves 1 = .ok (.aload_n 0, 1) := by decide +kernel
theorem dX1_saves_2 : decode cX1_saves 2 = .ok (.invokevirtual 112, 3) := by decide +kernel
theorem dX1_saves_5 : decode cX1_saves 5 = .ok (.aload_n 0, 1) := by decide +kernel
theorem dX1_saves_6 : decode cX1_saves 6 = .ok (.aload_n 0, 1) := by decide +kernel
theorem dX1_saves_7 : decode cX1_saves 7 = .ok (.invokevirtual 89, 3) := by decide +kernel
theorem dX1_saves_10 : decode cX1_saves 10 = .ok (.invokevirtual 72, 3) := by decide +kernel
theorem dX1_saves_13 : decode cX1_saves 13 = .ok (.isub, 1) := by decide +kernel
theorem dX1_saves_14 : decode cX1_saves 14 = .ok (.aload_n 0, 1) := by decide +kernel
theorem dX1_saves_15 : decode cX1_saves 15 = .ok (.getfield 16, 3) := by decide +kernel
theorem dX1_saves_18 : decode cX1_saves 18 = .ok (.imul, 1) := by decide +kernel
theorem dX1_saves_19 : decode cX1_saves 19 = .ok (.invokevirtual 133, 3) := by decide +kernel
theorem dX1_saves_22 : decode cX1_saves 22 = .ok (.ireturn, 1) := by decide +kernel
set_option maxRecDepth 20000 in
theorem ggX1_wordings_X1_standIns : GoodIn wsX1_wordings wsX1_standIns := goodIn_r _ [13, 14, 15, 16, 17, 18, 19, 20, 21, 22, 23, 24, 25, 26, 27, 28, 29, 30, 31] (by decide +kernel) (by decide +kernel)
set_option maxRecDepth 20000 in
theorem gX1_wordings_X1_standIns : GoodIn wsX1_wordings (wsV RX1 136 RX1 yX1_standIns wsX1_standIns) := goodIn_app (goodIn_of _ (by decide +kernel)) ggX1_wordings_X1_standIns
theorem dX1_wordings_0 : decode cX1_wordings 0 = .ok (.aload_n 0, 1) := by decide +kernel
theorem dX1_wordings_1 : decode cX1_wordings 1 = .ok (.iconst 0, 1) := by decide +kernel
theorem dX1_wordings_2 : decode cX1_wordings 2 = .ok (.putfield 45, 3) := by decide +kernel
theorem dX1_wordings_5 : decode cX1_wordings 5 = .ok (.iconst 1, 1) := by decide +kernel
theorem dX1_wordings_6 : decode cX1_wordings 6 = .ok (.istore_n 1, 1) := by decide +kernel
theorem dX1_wordings_7 : decode cX1_wordings 7 = .ok (.iconst 0, 1) := by decide +kernel
theorem dX1_wordings_8 : decode cX1_wordings 8 = .ok (.istore_n 2, 1) := by decide +kernel
theorem dX1_wordings_9 : decode cX1_wordings 9 = .ok (.iload_n 2, 1) := by decide +kernel
theorem dX1_wordings_10 : decode cX1_wordings 10 = .ok (.aload_n 0, 1) := by decide +kernel
theorem dX1_wordings_11 : decode cX1_wordings 11 = .ok (.getfield 55, 3) := by decide +kernel
theorem dX1_wordings_14 : decode cX1_wordings 14 = .ok (.if_icmp .ge 27, 3) := by decide +kernel
theorem dX1_wordings_17 : decode cX1_wordings 17 = .ok (.ldc 75, 2) := by decide +kernel
theorem dX1_wordings_19 : decode cX1_wordings 19 = .ok (.iload_n 1, 1) := by decide +kernel
theorem dX1_wordings_20 : decode cX1_wordings 20 = .ok (.aload_n 0, 1) := by decide +kernel
theorem dX1_wordings_21 : decode cX1_wordings 21 = .ok (.aload_n 0, 1) := by decide +kernel
theorem dX1_wordings_22 : decode cX1_wordings 22 = .ok (.getfield 29, 3) := by decide +kernel
theorem dX1_wordings_25 : decode cX1_wordings 25 = .ok (.iload_n 2, 1) := by decide +kernel
theorem dX1_wordings_26 : decode cX1_wordings 26 = .ok (.iaload, 1) := by decide +kernel
theorem dX1_wordings_27 : decode cX1_wordings 27 = .ok (.invokevirtual 136, 3) := by decide +kernel
theorem dX1_wordings_30 : decode cX1_wordings 30 = .ok (.imul, 1) := by decide +kernel
theorem dX1_wordings_31 : decode cX1_wordings 31 = .ok (.invokestatic 80, 3) := by decide +kernel
theorem dX1_wordings_34 : decode cX1_wordings 34 = .ok (.istore_n 1, 1) := by decide +kernel
theorem dX1_wordings_35 : decode cX1_wordings 35 = .ok (.iinc 2 1, 3) := by decide +kernel
theorem dX1_wordings_38 : decode cX1_wordings 38 = .ok (.goto (-29), 3) := by decide +kernel
theorem dX1_wordings_41 : decode cX1_wordings 41 = .ok (.iload_n 1, 1) := by decide +kernel
theorem dX1_wordings_42 : decode cX1_wordings 42 = .ok (.ireturn, 1) := by decide +kernel
set_option maxRecDepth 20000 in
theorem ggX1_bestJoin_X1_reckon : GoodIn wsX1_bestJoin wsX1_reckon := goodIn_r _ [8, 9, 10, 11, 12, 13, 14, 15, 16, 17, 7, 18, 19, 2, 20, 21, 22, 23, 24, 25, 26, 27, 28, 29, 30, 31, 32, 33, 34, 3, 43, 44, 45, 46, 47, 48, 49, 50, 51, 52, 53, 54, 55, 56, 57, 58] (by decide +kernel) (by decide +kernel)
set_option maxRecDepth 20000 in
theorem gX1_bestJoin_X1_reckon : GoodIn wsX1_bestJoin (wsV RX1 89 RX1 yX1_reckon wsX1_reckon) := goodIn_app (goodIn_of _ (by decide +kernel)) ggX1_bestJoin_X1_reckon
set_option maxRecDepth 20000 in
theorem ggX1_bestJoin_X1_lifted : GoodIn wsX1_bestJoin wsX1_lifted := goodIn_r _ [38, 10, 39, 40, 41, 13, 42, 43, 44, 45, 46, 47, 48, 49, 50, 51, 52, 53, 54, 55, 56, 57, 58] (by decide +kernel) (by decide +kernel)
set_option maxRecDepth 20000 in
theorem gX1_bestJoin_X1_lifted : GoodIn wsX1_bestJoin (wsV RX1 72 RX1 yX1_lifted wsX1_lifted) := goodIn_app (goodIn_of _ (by decide +kernel)) ggX1_bestJoin_X1_lifted
set_option maxRecDepth 20000 in
theorem ggX1_bestJoin_X1_has : GoodIn wsX1_bestJoin wsX1_has := goodIn_r _ [25] (by decide +kernel) (by decide +kernel)
set_option maxRecDepth 20000 in
theorem gX1_bestJoin_X1_has : GoodIn wsX1_bestJoin (va_wsS RX1 76 yX1_has wsX1_has) := goodIn_app (goodIn_of _ (by decide +kernel)) ggX1_bestJoin_X1_has
theorem dX1_bestJoin_0 : decode cX1_bestJoin 0 = .ok (.aload_n 0, 1) := by decide +kernel
theorem dX1_bestJoin_1 : decode cX1_bestJoin 1 = .ok (.iconst 0, 1) := by decide +kernel
theorem dX1_bestJoin_2 : decode cX1_bestJoin 2 = .ok (.putfield 45, 3) := by decide +kernel
theorem dX1_bestJoin_5 : decode cX1_bestJoin 5 = .ok (.iconst (-1), 1) := by decide +kernel
theorem dX1_bestJoin_6 : decode cX1_bestJoin 6 = .ok (.istore_n 1, 1) := by decide +kernel
theorem dX1_bestJoin_7 : decode cX1_bestJoin 7 = .ok (.aload_n 0, 1) := by decide +kernel
theorem dX1_bestJoin_8 : decode cX1_bestJoin 8 = .ok (.aload_n 0, 1) := by decide +kernel
theorem dX1_bestJoin_9 : decode cX1_bestJoin 9 = .ok (.invokevirtual 89, 3) := by decide +kernel
theorem dX1_bestJoin_12 : decode cX1_bestJoin 12 = .ok (.invokevirtual 72, 3) := by decide +kernel
theorem dX1_bestJoin_15 : decode cX1_bestJoin 15 = .ok (.istore_n 2, 1) := by decide +kernel
theorem dX1_bestJoin_16 : decode cX1_bestJoin 16 = .ok (.iconst 0, 1) := by decide +kernel
theorem dX1_bestJoin_17 : decode cX1_bestJoin 17 = .ok (.istore_n 3, 1) := by decide +kernel
theorem dX1_bestJoin_18 : decode cX1_bestJoin 18 = .ok (.iload_n 3, 1) := by decide +kernel
theorem dX1_bestJoin_19 : decode cX1_bestJoin 19 = .ok (.aload_n 0, 1) := by decide +kernel
theorem dX1_bestJoin_20 : decode cX1_bestJoin 20 = .ok (.getfield 48, 3) := by decide +kernel
theorem dX1_bestJoin_23 : decode cX1_bestJoin 23 = .ok (.if_icmp .ge 102, 3) := by decide +kernel
theorem dX1_bestJoin_26 : decode cX1_bestJoin 26 = .ok (.iconst 0, 1) := by decide +kernel
theorem dX1_bestJoin_27 : decode cX1_bestJoin 27 = .ok (.istore 4, 2) := by decide +kernel
theorem dX1_bestJoin_29 : decode cX1_bestJoin 29 = .ok (.iload 4, 2) := by decide +kernel
theorem dX1_bestJoin_31 : decode cX1_bestJoin 31 = .ok (.aload_n 0, 1) := by decide +kernel
theorem dX1_bestJoin_32 : decode cX1_bestJoin 32 = .ok (.getfield 48, 3) := by decide +kernel
theorem dX1_bestJoin_35 : decode cX1_bestJoin 35 = .ok (.if_icmp .ge 84, 3) := by decide +kernel
theorem dX1_bestJoin_38 : decode cX1_bestJoin 38 = .ok (.aload_n 0, 1) := by decide +kernel
theorem dX1_bestJoin_39 : decode cX1_bestJoin 39 = .ok (.getfield 26, 3) := by decide +kernel
theorem dX1_bestJoin_42 : decode cX1_bestJoin 42 = .ok (.iload_n 3, 1) := by decide +kernel
theorem dX1_bestJoin_43 : decode cX1_bestJoin 43 = .ok (.iaload, 1) := by decide +kernel
theorem dX1_bestJoin_44 : decode cX1_bestJoin 44 = .ok (.iload 4, 2) := by decide +kernel
theorem dX1_bestJoin_46 : decode cX1_bestJoin 46 = .ok (.invokestatic 76, 3) := by decide +kernel
theorem dX1_bestJoin_49 : decode cX1_bestJoin 49 = .ok (.ifCond .eq 6, 3) := by decide +kernel
theorem dX1_bestJoin_52 : decode cX1_bestJoin 52 = .ok (.goto 61, 3) := by decide +kernel
theorem dX1_bestJoin_55 : decode cX1_bestJoin 55 = .ok (.aload_n 0, 1) := by decide +kernel
theorem dX1_bestJoin_56 : decode cX1_bestJoin 56 = .ok (.getfield 26, 3) := by decide +kernel
theorem dX1_bestJoin_59 : decode cX1_bestJoin 59 = .ok (.iload_n 3, 1) := by decide +kernel
theorem dX1_bestJoin_60 : decode cX1_bestJoin 60 = .ok (.dup2, 1) := by decide +kernel
theorem dX1_bestJoin_61 : decode cX1_bestJoin 61 = .ok (.iaload, 1) := by decide +kernel
theorem dX1_bestJoin_62 : decode cX1_bestJoin 62 = .ok (.iconst 1, 1) := by decide +kernel
theorem dX1_bestJoin_63 : decode cX1_bestJoin 63 = .ok (.iload 4, 2) := by decide +kernel
theorem dX1_bestJoin_65 : decode cX1_bestJoin 65 = .ok (.ishl, 1) := by decide +kernel
theorem dX1_bestJoin_66 : decode cX1_bestJoin 66 = .ok (.ior, 1) := by decide +kernel
theorem dX1_bestJoin_67 : decode cX1_bestJoin 67 = .ok (.iastore, 1) := by decide +kernel
theorem dX1_bestJoin_68 : decode cX1_bestJoin 68 = .ok (.aload_n 0, 1) := by decide +kernel
theorem dX1_bestJoin_69 : decode cX1_bestJoin 69 = .ok (.aload_n 0, 1) := by decide +kernel
theorem dX1_bestJoin_70 : decode cX1_bestJoin 70 = .ok (.invokevirtual 89, 3) := by decide +kernel
theorem dX1_bestJoin_73 : decode cX1_bestJoin 73 = .ok (.invokevirtual 72, 3) := by decide +kernel
theorem dX1_bestJoin_76 : decode cX1_bestJoin 76 = .ok (.istore 5, 2) := by decide +kernel
theorem dX1_bestJoin_78 : decode cX1_bestJoin 78 = .ok (.aload_n 0, 1) := by decide +kernel
theorem dX1_bestJoin_79 : decode cX1_bestJoin 79 = .ok (.getfield 26, 3) := by decide +kernel
theorem dX1_bestJoin_82 : decode cX1_bestJoin 82 = .ok (.iload_n 3, 1) := by decide +kernel
theorem dX1_bestJoin_83 : decode cX1_bestJoin 83 = .ok (.dup2, 1) := by decide +kernel
theorem dX1_bestJoin_84 : decode cX1_bestJoin 84 = .ok (.iaload, 1) := by decide +kernel
theorem dX1_bestJoin_85 : decode cX1_bestJoin 85 = .ok (.iconst 1, 1) := by decide +kernel
theorem dX1_bestJoin_86 : decode cX1_bestJoin 86 = .ok (.iload 4, 2) := by decide +kernel
theorem dX1_bestJoin_88 : decode cX1_bestJoin 88 = .ok (.ishl, 1) := by decide +kernel
theorem dX1_bestJoin_89 : decode cX1_bestJoin 89 = .ok (.iconst (-1), 1) := by decide +kernel
theorem dX1_bestJoin_90 : decode cX1_bestJoin 90 = .ok (.ixor, 1) := by decide +kernel
theorem dX1_bestJoin_91 : decode cX1_bestJoin 91 = .ok (.iand, 1) := by decide +kernel
theorem dX1_bestJoin_92 : decode cX1_bestJoin 92 = .ok (.iastore, 1) := by decide +kernel
theorem dX1_bestJoin_93 : decode cX1_bestJoin 93 = .ok (.iload 5, 2) := by decide +kernel
theorem dX1_bestJoin_95 : decode cX1_bestJoin 95 = .ok (.iload_n 2, 1) := by decide +kernel
theorem dX1_bestJoin_96 : decode cX1_bestJoin 96 = .ok (.if_icmp .lt 6, 3) := by decide +kernel
theorem dX1_bestJoin_99 : decode cX1_bestJoin 99 = .ok (.goto 14, 3) := by decide +kernel
theorem dX1_bestJoin_102 : decode cX1_bestJoin 102 = .ok (.bipush 100, 2) := by decide +kernel
theorem dX1_bestJoin_104 : decode cX1_bestJoin 104 = .ok (.iload_n 3, 1) := by decide +kernel
theorem dX1_bestJoin_105 : decode cX1_bestJoin 105 = .ok (.imul, 1) := by decide +kernel
theorem dX1_bestJoin_106 : decode cX1_bestJoin 106 = .ok (.iload 4, 2) := by decide +kernel
theorem dX1_bestJoin_108 : decode cX1_bestJoin 108 = .ok (.iadd, 1) := by decide +kernel
theorem dX1_bestJoin_109 : decode cX1_bestJoin 109 = .ok (.istore_n 1, 1) := by decide +kernel
theorem dX1_bestJoin_110 : decode cX1_bestJoin 110 = .ok (.iload 5, 2) := by decide +kernel
theorem dX1_bestJoin_112 : decode cX1_bestJoin 112 = .ok (.istore_n 2, 1) := by decide +kernel
theorem dX1_bestJoin_113 : decode cX1_bestJoin 113 = .ok (.iinc 4 1, 3) := by decide +kernel
theorem dX1_bestJoin_116 : decode cX1_bestJoin 116 = .ok (.goto (-87), 3) := by decide +kernel
theorem dX1_bestJoin_119 : decode cX1_bestJoin 119 = .ok (.iinc 3 1, 3) := by decide +kernel
theorem dX1_bestJoin_122 : decode cX1_bestJoin 122 = .ok (.goto (-104), 3) := by decide +kernel
theorem dX1_bestJoin_125 : decode cX1_bestJoin 125 = .ok (.iload_n 1, 1) := by decide +kernel
theorem dX1_bestJoin_126 : decode cX1_bestJoin 126 = .ok (.ireturn, 1) := by decide +kernel
theorem dX1_meanCost_0 : decode cX1_meanCost 0 = .ok (.aload_n 0, 1) := by decide +kernel
theorem dX1_meanCost_1 : decode cX1_meanCost 1 = .ok (.iconst 0, 1) := by decide +kernel
theorem dX1_meanCost_2 : decode cX1_meanCost 2 = .ok (.putfield 45, 3) := by decide +kernel
theorem dX1_meanCost_5 : decode cX1_meanCost 5 = .ok (.aload_n 0, 1) := by decide +kernel
theorem dX1_meanCost_6 : decode cX1_meanCost 6 = .ok (.getfield 127, 3) := by decide +kernel
theorem dX1_meanCost_9 : decode cX1_meanCost 9 = .ok (.ifCond .ne 7, 3) := by decide +kernel
theorem dX1_meanCost_12 : decode cX1_meanCost 12 = .ok (.dconst 0, 1) := by decide +kernel
theorem dX1_meanCost_13 : decode cX1_meanCost 13 = .ok (.goto 14, 3) := by decide +kernel
theorem dX1_meanCost_16 : decode cX1_meanCost 16 = .ok (.aload_n 0, 1) := by decide +kernel
theorem dX1_meanCost_17 : decode cX1_meanCost 17 = .ok (.getfield 130, 3) := by decide +kernel
theorem dX1_meanCost_20 : decode cX1_meanCost 20 = .ok (.i2d, 1) := by decide +kernel
theorem dX1_meanCost_21 : decode cX1_meanCost 21 = .ok (.aload_n 0, 1) := by decide +kernel
theorem dX1_meanCost_22 : decode cX1_meanCost 22 = .ok (.getfield 127, 3) := by decide +kernel
theorem dX1_meanCost_25 : decode cX1_meanCost 25 = .ok (.i2d, 1) := by decide +kernel
theorem dX1_meanCost_26 : decode cX1_meanCost 26 = .ok (.ddiv, 1) := by decide +kernel
theorem dX1_meanCost_27 : decode cX1_meanCost 27 = .ok (.dreturn, 1) := by decide +kernel
set_option maxRecDepth 20000 in
theorem ggX1_digest_X1_choose : GoodIn wsX1_digest wsX1_choose := goodIn_r _ [22, 7, 17, 16, 23, 24, 25, 21, 26, 8, 27, 28, 29, 30, 31, 32, 33, 34, 35, 3, 36, 14, 13, 37, 38, 39, 40, 41, 42, 43, 4, 44, 45, 46, 47, 48, 49, 50, 51, 52, 53, 54, 55, 56, 72, 73, 74, 75, 76, 77, 78, 79, 80, 81, 82, 83, 84, 85, 86, 87] (by decide +kernel) (by decide +kernel)
set_option maxRecDepth 20000 in
theorem gX1_digest_X1_choose : GoodIn wsX1_digest (wsV RX1 115 RX1 yX1_choose wsX1_choose) := goodIn_app (goodIn_of _ (by decide +kernel)) ggX1_digest_X1_choose
set_option maxRecDepth 20000 in
theorem ggX1_digest_X1_countNow : GoodIn wsX1_digest wsX1_countNow := goodIn_r _ [60, 7, 13, 14, 15, 40, 41, 42, 21, 43, 4, 61, 62, 63, 64, 5, 65, 66, 29, 67, 72, 73, 74, 75, 76, 77, 78, 79, 80, 81, 82, 83, 84, 85, 86, 87] (by decide +kernel) (by decide +kernel)
set_option maxRecDepth 20000 in
theorem gX1_digest_X1_countNow : GoodIn wsX1_digest (wsV RX1 112 RX1 yX1_countNow wsX1_countNow) := goodIn_app (goodIn_of _ (by decide +kernel)) ggX1_digest_X1_countNow
set_option maxRecDepth 20000 in
theorem ggX1_digest_X1_lifted : GoodIn wsX1_digest wsX1_lifted := goodIn_r _ [64, 7, 5, 65, 66, 29, 67, 72, 73, 74, 75, 76, 77, 78, 79, 80, 81, 82, 83, 84, 85, 86, 87] (by decide +kernel) (by decide +kernel)
set_option maxRecDepth 20000 in
theorem gX1_digest_X1_lifted : GoodIn wsX1_digest (wsV RX1 72 RX1 yX1_lifted wsX1_lifted) := goodIn_app (goodIn_of _ (by decide +kernel)) ggX1_digest_X1_lifted
set_option maxRecDepth 20000 in
theorem ggX1_digest_X1_counts : GoodIn wsX1_digest wsX1_counts := goodIn_r _ [43, 4, 72, 73, 74, 75, 76, 77, 78, 79, 80, 81, 82, 83, 84, 85, 86, 87] (by decide +kernel) (by decide +kernel)
set_option maxRecDepth 20000 in
theorem gX1_digest_X1_counts : GoodIn wsX1_digest (wsV RX1 68 RX1 yX1_counts wsX1_counts) := goodIn_app (goodIn_of _ (by decide +kernel)) ggX1_digest_X1_counts
set_option maxRecDepth 20000 in
theorem ggX1_digest_X1_standIns : GoodIn wsX1_digest wsX1_standIns := goodIn_r _ [71, 3, 36, 72, 73, 74, 75, 76, 77, 78, 79, 80, 81, 82, 83, 84, 85, 86, 87] (by decide +kernel) (by decide +kernel)
set_option maxRecDepth 20000 in
theorem gX1_digest_X1_standIns : GoodIn wsX1_digest (wsV RX1 136 RX1 yX1_standIns wsX1_standIns) := goodIn_app (goodIn_of _ (by decide +kernel)) ggX1_digest_X1_standIns
theorem dX1_digest_0 : decode cX1_digest 0 = .ok (.aload_n 0, 1) := by decide +kernel
theorem dX1_digest_1 : decode cX1_digest 1 = .ok (.iconst 0, 1) := by decide +kernel
theorem dX1_digest_2 : decode cX1_digest 2 = .ok (.putfield 45, 3) := by decide +kernel
theorem dX1_digest_5 : decode cX1_digest 5 = .ok (.aload_n 0, 1) := by decide +kernel
theorem dX1_digest_6 : decode cX1_digest 6 = .ok (.invokevirtual 115, 3) := by decide +kernel
theorem dX1_digest_9 : decode cX1_digest 9 = .ok (.bipush 10, 2) := by decide +kernel
theorem dX1_digest_11 : decode cX1_digest 11 = .ok (.newarray .int, 2) := by decide +kernel
theorem dX1_digest_13 : decode cX1_digest 13 = .ok (.dup, 1) := by decide +kernel
theorem dX1_digest_14 : decode cX1_digest 14 = .ok (.iconst 0, 1) := by decide +kernel
theorem dX1_digest_15 : decode cX1_digest 15 = .ok (.aload_n 0, 1) := by decide +kernel
theorem dX1_digest_16 : decode cX1_digest 16 = .ok (.getfield 48, 3) := by decide +kernel
theorem dX1_digest_19 : decode cX1_digest 19 = .ok (.iastore, 1) := by decide +kernel
theorem dX1_digest_20 : decode cX1_digest 20 = .ok (.dup, 1) := by decide +kernel
theorem dX1_digest_21 : decode cX1_digest 21 = .ok (.iconst 1, 1) := by decide +kernel
theorem dX1_digest_22 : decode cX1_digest 22 = .ok (.aload_n 0, 1) := by decide +kernel
theorem dX1_digest_23 : decode cX1_digest 23 = .ok (.getfield 7, 3) := by decide +kernel
theorem dX1_digest_26 : decode cX1_digest 26 = .ok (.iastore, 1) := by decide +kernel
theorem dX1_digest_27 : decode cX1_digest 27 = .ok (.dup, 1) := by decide +kernel
theorem dX1_digest_28 : decode cX1_digest 28 = .ok (.iconst 2, 1) := by decide +kernel
theorem dX1_digest_29 : decode cX1_digest 29 = .ok (.aload_n 0, 1) := by decide +kernel
theorem dX1_digest_30 : decode cX1_digest 30 = .ok (.getfield 13, 3) := by decide +kernel
theorem dX1_digest_33 : decode cX1_digest 33 = .ok (.iastore, 1) := by decide +kernel
theorem dX1_digest_34 : decode cX1_digest 34 = .ok (.dup, 1) := by decide +kernel
theorem dX1_digest_35 : decode cX1_digest 35 = .ok (.iconst 3, 1) := by decide +kernel
theorem dX1_digest_36 : decode cX1_digest 36 = .ok (.aload_n 0, 1) := by decide +kernel
theorem dX1_digest_37 : decode cX1_digest 37 = .ok (.getfield 16, 3) := by decide +kernel
theorem dX1_digest_40 : decode cX1_digest 40 = .ok (.iastore, 1) := by decide +kernel
theorem dX1_digest_41 : decode cX1_digest 41 = .ok (.dup, 1) := by decide +kernel
theorem dX1_digest_42 : decode cX1_digest 42 = .ok (.iconst 4, 1) := by decide +kernel
theorem dX1_digest_43 : decode cX1_digest 43 = .ok (.aload_n 0, 1) := by decide +kernel
theorem dX1_digest_44 : decode cX1_digest 44 = .ok (.getfield 55, 3) := by decide +kernel
theorem dX1_digest_47 : decode cX1_digest 47 = .ok (.iastore, 1) := by decide +kernel
theorem dX1_digest_48 : decode cX1_digest 48 = .ok (.dup, 1) := by decide +kernel
theorem dX1_digest_49 : decode cX1_digest 49 = .ok (.iconst 5, 1) := by decide +kernel
theorem dX1_digest_50 : decode cX1_digest 50 = .ok (.aload_n 0, 1) := by decide +kernel
theorem dX1_digest_51 : decode cX1_digest 51 = .ok (.invokevirtual 112, 3) := by decide +kernel
theorem dX1_digest_54 : decode cX1_digest 54 = .ok (.iastore, 1) := by decide +kernel
theorem dX1_digest_55 : decode cX1_digest 55 = .ok (.dup, 1) := by decide +kernel
theorem dX1_digest_56 : decode cX1_digest 56 = .ok (.bipush 6, 2) := by decide +kernel
theorem dX1_digest_58 : decode cX1_digest 58 = .ok (.aload_n 0, 1) := by decide +kernel
theorem dX1_digest_59 : decode cX1_digest 59 = .ok (.invokevirtual 112, 3) := by decide +kernel
theorem dX1_digest_62 : decode cX1_digest 62 = .ok (.aload_n 0, 1) := by decide +kernel
theorem dX1_digest_63 : decode cX1_digest 63 = .ok (.getfield 16, 3) := by decide +kernel
theorem dX1_digest_66 : decode cX1_digest 66 = .ok (.imul, 1) := by decide +kernel
theorem dX1_digest_67 : decode cX1_digest 67 = .ok (.iastore, 1) := by decide +kernel
theorem dX1_digest_68 : decode cX1_digest 68 = .ok (.dup, 1) := by decide +kernel
theorem dX1_digest_69 : decode cX1_digest 69 = .ok (.bipush 7, 2) := by decide +kernel
theorem dX1_digest_71 : decode cX1_digest 71 = .ok (.aload_n 0, 1) := by decide +kernel
theorem dX1_digest_72 : decode cX1_digest 72 = .ok (.aload_n 0, 1) := by decide +kernel
theorem dX1_digest_73 : decode cX1_digest 73 = .ok (.getfield 36, 3) := by decide +kernel
theorem dX1_digest_76 : decode cX1_digest 76 = .ok (.iconst 0, 1) := by decide +kernel
theorem dX1_digest_77 : decode cX1_digest 77 = .ok (.iaload, 1) := by decide +kernel
theorem dX1_digest_78 : decode cX1_digest 78 = .ok (.invokevirtual 72, 3) := by decide +kernel
theorem dX1_digest_81 : decode cX1_digest 81 = .ok (.iastore, 1) := by decide +kernel
theorem dX1_digest_82 : decode cX1_digest 82 = .ok (.dup, 1) := by decide +kernel
theorem dX1_digest_83 : decode cX1_digest 83 = .ok (.bipush 8, 2) := by decide +kernel
theorem dX1_digest_85 : decode cX1_digest 85 = .ok (.aload_n 0, 1) := by decide +kernel
theorem dX1_digest_86 : decode cX1_digest 86 = .ok (.getfield 127, 3) := by decide +kernel
theorem dX1_digest_89 : decode cX1_digest 89 = .ok (.iastore, 1) := by decide +kernel
theorem dX1_digest_90 : decode cX1_digest 90 = .ok (.dup, 1) := by decide +kernel
theorem dX1_digest_91 : decode cX1_digest 91 = .ok (.bipush 9, 2) := by decide +kernel
theorem dX1_digest_93 : decode cX1_digest 93 = .ok (.aload_n 0, 1) := by decide +kernel
theorem dX1_digest_94 : decode cX1_digest 94 = .ok (.getfield 130, 3) := by decide +kernel
theorem dX1_digest_97 : decode cX1_digest 97 = .ok (.iastore, 1) := by decide +kernel
theorem dX1_digest_98 : decode cX1_digest 98 = .ok (.astore_n 1, 1) := by decide +kernel
theorem dX1_digest_99 : decode cX1_digest 99 = .ok (.ldc2_w 139, 3) := by decide +kernel
theorem dX1_digest_102 : decode cX1_digest 102 = .ok (.lstore_n 2, 1) := by decide +kernel
theorem dX1_digest_103 : decode cX1_digest 103 = .ok (.aload_n 1, 1) := by decide +kernel
theorem dX1_digest_104 : decode cX1_digest 104 = .ok (.astore 4, 2) := by decide +kernel
theorem dX1_digest_106 : decode cX1_digest 106 = .ok (.aload 4, 2) := by decide +kernel
theorem dX1_digest_108 : decode cX1_digest 108 = .ok (.arraylength, 1) := by decide +kernel
theorem dX1_digest_109 : decode cX1_digest 109 = .ok (.istore 5, 2) := by decide +kernel
theorem dX1_digest_111 : decode cX1_digest 111 = .ok (.iconst 0, 1) := by decide +kernel
theorem dX1_digest_112 : decode cX1_digest 112 = .ok (.istore 6, 2) := by decide +kernel
theorem dX1_digest_114 : decode cX1_digest 114 = .ok (.iload 6, 2) := by decide +kernel
theorem dX1_digest_116 : decode cX1_digest 116 = .ok (.iload 5, 2) := by decide +kernel
theorem dX1_digest_118 : decode cX1_digest 118 = .ok (.if_icmp .ge 26, 3) := by decide +kernel
theorem dX1_digest_121 : decode cX1_digest 121 = .ok (.aload 4, 2) := by decide +kernel
theorem dX1_digest_123 : decode cX1_digest 123 = .ok (.iload 6, 2) := by decide +kernel
theorem dX1_digest_125 : decode cX1_digest 125 = .ok (.iaload, 1) := by decide +kernel
theorem dX1_digest_126 : decode cX1_digest 126 = .ok (.istore 7, 2) := by decide +kernel
theorem dX1_digest_128 : decode cX1_digest 128 = .ok (.lload_n 2, 1) := by decide +kernel
theorem dX1_digest_129 : decode cX1_digest 129 = .ok (.ldc2_w 141, 3) := by decide +kernel
theorem dX1_digest_132 : decode cX1_digest 132 = .ok (.lmul, 1) := by decide +kernel
theorem dX1_digest_133 : decode cX1_digest 133 = .ok (.iload 7, 2) := by decide +kernel
theorem dX1_digest_135 : decode cX1_digest 135 = .ok (.i2l, 1) := by decide +kernel
theorem dX1_digest_136 : decode cX1_digest 136 = .ok (.ladd, 1) := by decide +kernel
theorem dX1_digest_137 : decode cX1_digest 137 = .ok (.lstore_n 2, 1) := by decide +kernel
theorem dX1_digest_138 : decode cX1_digest 138 = .ok (.iinc 6 1, 3) := by decide +kernel
theorem dX1_digest_141 : decode cX1_digest 141 = .ok (.goto (-27), 3) := by decide +kernel
theorem dX1_digest_144 : decode cX1_digest 144 = .ok (.iconst 0, 1) := by decide +kernel
theorem dX1_digest_145 : decode cX1_digest 145 = .ok (.istore 4, 2) := by decide +kernel
theorem dX1_digest_147 : decode cX1_digest 147 = .ok (.iload 4, 2) := by decide +kernel
theorem dX1_digest_149 : decode cX1_digest 149 = .ok (.aload_n 0, 1) := by decide +kernel
theorem dX1_digest_150 : decode cX1_digest 150 = .ok (.getfield 48, 3) := by decide +kernel
theorem dX1_digest_153 : decode cX1_digest 153 = .ok (.if_icmp .ge 57, 3) := by decide +kernel
theorem dX1_digest_156 : decode cX1_digest 156 = .ok (.lload_n 2, 1) := by decide +kernel
theorem dX1_digest_157 : decode cX1_digest 157 = .ok (.ldc2_w 141, 3) := by decide +kernel
theorem dX1_digest_160 : decode cX1_digest 160 = .ok (.lmul, 1) := by decide +kernel
theorem dX1_digest_161 : decode cX1_digest 161 = .ok (.aload_n 0, 1) := by decide +kernel
theorem dX1_digest_162 : decode cX1_digest 162 = .ok (.getfield 19, 3) := by decide +kernel
theorem dX1_digest_165 : decode cX1_digest 165 = .ok (.iload 4, 2) := by decide +kernel
theorem dX1_digest_167 : decode cX1_digest 167 = .ok (.iaload, 1) := by decide +kernel
theorem dX1_digest_168 : decode cX1_digest 168 = .ok (.i2l, 1) := by decide +kernel
theorem dX1_digest_169 : decode cX1_digest 169 = .ok (.ladd, 1) := by decide +kernel
theorem dX1_digest_170 : decode cX1_digest 170 = .ok (.lstore_n 2, 1) := by decide +kernel
theorem dX1_digest_171 : decode cX1_digest 171 = .ok (.lload_n 2, 1) := by decide +kernel
theorem dX1_digest_172 : decode cX1_digest 172 = .ok (.ldc2_w 141, 3) := by decide +kernel
theorem dX1_digest_175 : decode cX1_digest 175 = .ok (.lmul, 1) := by decide +kernel
theorem dX1_digest_176 : decode cX1_digest 176 = .ok (.aload_n 0, 1) := by decide +kernel
theorem dX1_digest_177 : decode cX1_digest 177 = .ok (.aload_n 0, 1) := by decide +kernel
theorem dX1_digest_178 : decode cX1_digest 178 = .ok (.getfield 19, 3) := by decide +kernel
theorem dX1_digest_181 : decode cX1_digest 181 = .ok (.iload 4, 2) := by decide +kernel
theorem dX1_digest_183 : decode cX1_digest 183 = .ok (.iaload, 1) := by decide +kernel
theorem dX1_digest_184 : decode cX1_digest 184 = .ok (.invokevirtual 68, 3) := by decide +kernel
theorem dX1_digest_187 : decode cX1_digest 187 = .ok (.i2l, 1) := by decide +kernel
theorem dX1_digest_188 : decode cX1_digest 188 = .ok (.ladd, 1) := by decide +kernel
theorem dX1_digest_189 : decode cX1_digest 189 = .ok (.lstore_n 2, 1) := by decide +kernel
theorem dX1_digest_190 : decode cX1_digest 190 = .ok (.lload_n 2, 1) := by decide +kernel
theorem dX1_digest_191 : decode cX1_digest 191 = .ok (.ldc2_w 141, 3) := by decide +kernel
theorem dX1_digest_194 : decode cX1_digest 194 = .ok (.lmul, 1) := by decide +kernel
theorem dX1_digest_195 : decode cX1_digest 195 = .ok (.aload_n 0, 1) := by decide +kernel
theorem dX1_digest_196 : decode cX1_digest 196 = .ok (.iload 4, 2) := by decide +kernel
theorem dX1_digest_198 : decode cX1_digest 198 = .ok (.invokevirtual 136, 3) := by decide +kernel
theorem dX1_digest_201 : decode cX1_digest 201 = .ok (.i2l, 1) := by decide +kernel
theorem dX1_digest_202 : decode cX1_digest 202 = .ok (.ladd, 1) := by decide +kernel
theorem dX1_digest_203 : decode cX1_digest 203 = .ok (.lstore_n 2, 1) := by decide +kernel
theorem dX1_digest_204 : decode cX1_digest 204 = .ok (.iinc 4 1, 3) := by decide +kernel
theorem dX1_digest_207 : decode cX1_digest 207 = .ok (.goto (-60), 3) := by decide +kernel
theorem dX1_digest_210 : decode cX1_digest 210 = .ok (.iconst 0, 1) := by decide +kernel
theorem dX1_digest_211 : decode cX1_digest 211 = .ok (.istore 4, 2) := by decide +kernel
theorem dX1_digest_213 : decode cX1_digest 213 = .ok (.iload 4, 2) := by decide +kernel
theorem dX1_digest_215 : decode cX1_digest 215 = .ok (.aload_n 0, 1) := by decide +kernel
theorem dX1_digest_216 : decode cX1_digest 216 = .ok (.getfield 55, 3) := by decide +kernel
theorem dX1_digest_219 : decode cX1_digest 219 = .ok (.if_icmp .ge 85, 3) := by decide +kernel
theorem dX1_digest_222 : decode cX1_digest 222 = .ok (.lload_n 2, 1) := by decide +kernel
theorem dX1_digest_223 : decode cX1_digest 223 = .ok (.ldc2_w 141, 3) := by decide +kernel
theorem dX1_digest_226 : decode cX1_digest 226 = .ok (.lmul, 1) := by decide +kernel
theorem dX1_digest_227 : decode cX1_digest 227 = .ok (.aload_n 0, 1) := by decide +kernel
theorem dX1_digest_228 : decode cX1_digest 228 = .ok (.getfield 29, 3) := by decide +kernel
theorem dX1_digest_231 : decode cX1_digest 231 = .ok (.iload 4, 2) := by decide +kernel
theorem dX1_digest_233 : decode cX1_digest 233 = .ok (.iaload, 1) := by decide +kernel
theorem dX1_digest_234 : decode cX1_digest 234 = .ok (.i2l, 1) := by decide +kernel
theorem dX1_digest_235 : decode cX1_digest 235 = .ok (.ladd, 1) := by decide +kernel
theorem dX1_digest_236 : decode cX1_digest 236 = .ok (.lstore_n 2, 1) := by decide +kernel
theorem dX1_digest_237 : decode cX1_digest 237 = .ok (.lload_n 2, 1) := by decide +kernel
theorem dX1_digest_238 : decode cX1_digest 238 = .ok (.ldc2_w 141, 3) := by decide +kernel
theorem dX1_digest_241 : decode cX1_digest 241 = .ok (.lmul, 1) := by decide +kernel
theorem dX1_digest_242 : decode cX1_digest 242 = .ok (.aload_n 0, 1) := by decide +kernel
theorem dX1_digest_243 : decode cX1_digest 243 = .ok (.getfield 32, 3) := by decide +kernel
theorem dX1_digest_246 : decode cX1_digest 246 = .ok (.iload 4, 2) := by decide +kernel
theorem dX1_digest_248 : decode cX1_digest 248 = .ok (.baload, 1) := by decide +kernel
theorem dX1_digest_249 : decode cX1_digest 249 = .ok (.ifCond .eq 7, 3) := by decide +kernel
theorem dX1_digest_252 : decode cX1_digest 252 = .ok (.iconst 1, 1) := by decide +kernel
theorem dX1_digest_253 : decode cX1_digest 253 = .ok (.goto 4, 3) := by decide +kernel
theorem dX1_digest_256 : decode cX1_digest 256 = .ok (.iconst 0, 1) := by decide +kernel
theorem dX1_digest_257 : decode cX1_digest 257 = .ok (.i2l, 1) := by decide +kernel
theorem dX1_digest_258 : decode cX1_digest 258 = .ok (.ladd, 1) := by decide +kernel
theorem dX1_digest_259 : decode cX1_digest 259 = .ok (.lstore_n 2, 1) := by decide +kernel
theorem dX1_digest_260 : decode cX1_digest 260 = .ok (.lload_n 2, 1) := by decide +kernel
theorem dX1_digest_261 : decode cX1_digest 261 = .ok (.ldc2_w 141, 3) := by decide +kernel
theorem dX1_digest_264 : decode cX1_digest 264 = .ok (.lmul, 1) := by decide +kernel
theorem dX1_digest_265 : decode cX1_digest 265 = .ok (.aload_n 0, 1) := by decide +kernel
theorem dX1_digest_266 : decode cX1_digest 266 = .ok (.getfield 39, 3) := by decide +kernel
theorem dX1_digest_269 : decode cX1_digest 269 = .ok (.iload 4, 2) := by decide +kernel
theorem dX1_digest_271 : decode cX1_digest 271 = .ok (.iaload, 1) := by decide +kernel
theorem dX1_digest_272 : decode cX1_digest 272 = .ok (.i2l, 1) := by decide +kernel
theorem dX1_digest_273 : decode cX1_digest 273 = .ok (.ladd, 1) := by decide +kernel
theorem dX1_digest_274 : decode cX1_digest 274 = .ok (.lstore_n 2, 1) := by decide +kernel
theorem dX1_digest_275 : decode cX1_digest 275 = .ok (.lload_n 2, 1) := by decide +kernel
theorem dX1_digest_276 : decode cX1_digest 276 = .ok (.ldc2_w 141, 3) := by decide +kernel
theorem dX1_digest_279 : decode cX1_digest 279 = .ok (.lmul, 1) := by decide +kernel
theorem dX1_digest_280 : decode cX1_digest 280 = .ok (.aload_n 0, 1) := by decide +kernel
theorem dX1_digest_281 : decode cX1_digest 281 = .ok (.getfield 42, 3) := by decide +kernel
theorem dX1_digest_284 : decode cX1_digest 284 = .ok (.iload 4, 2) := by decide +kernel
theorem dX1_digest_286 : decode cX1_digest 286 = .ok (.baload, 1) := by decide +kernel
theorem dX1_digest_287 : decode cX1_digest 287 = .ok (.ifCond .eq 7, 3) := by decide +kernel
theorem dX1_digest_290 : decode cX1_digest 290 = .ok (.iconst 1, 1) := by decide +kernel
theorem dX1_digest_291 : decode cX1_digest 291 = .ok (.goto 4, 3) := by decide +kernel
theorem dX1_digest_294 : decode cX1_digest 294 = .ok (.iconst 0, 1) := by decide +kernel
theorem dX1_digest_295 : decode cX1_digest 295 = .ok (.i2l, 1) := by decide +kernel
theorem dX1_digest_296 : decode cX1_digest 296 = .ok (.ladd, 1) := by decide +kernel
theorem dX1_digest_297 : decode cX1_digest 297 = .ok (.lstore_n 2, 1) := by decide +kernel
theorem dX1_digest_298 : decode cX1_digest 298 = .ok (.iinc 4 1, 3) := by decide +kernel
theorem dX1_digest_301 : decode cX1_digest 301 = .ok (.goto (-88), 3) := by decide +kernel
theorem dX1_digest_304 : decode cX1_digest 304 = .ok (.lload_n 2, 1) := by decide +kernel
theorem dX1_digest_305 : decode cX1_digest 305 = .ok (.lreturn, 1) := by decide +kernel
