theorem dX0_init_0 : decode cX0_init 0 = .ok (.aload_n 0, 1) := by decide +kernel
theorem dX0_init_1 : decode cX0_init 1 = .ok (.invokespecial 1, 3) := by decide +kernel
theorem dX0_init_4 : decode cX0_init 4 = .ok (.aload_n 0, 1) := by decide +kernel
theorem dX0_init_5 : decode cX0_init 5 = .ok (.bipush 12, 2) := by decide +kernel
theorem dX0_init_7 : decode cX0_init 7 = .ok (.newarray .int, 2) := by decide +kernel
theorem dX0_init_9 : decode cX0_init 9 = .ok (.putfield 9, 3) := by decide +kernel
theorem dX0_init_12 : decode cX0_init 12 = .ok (.aload_n 0, 1) := by decide +kernel
theorem dX0_init_13 : decode cX0_init 13 = .ok (.bipush 12, 2) := by decide +kernel
theorem dX0_init_15 : decode cX0_init 15 = .ok (.newarray .int, 2) := by decide +kernel
theorem dX0_init_17 : decode cX0_init 17 = .ok (.putfield 13, 3) := by decide +kernel
theorem dX0_init_20 : decode cX0_init 20 = .ok (.aload_n 0, 1) := by decide +kernel
theorem dX0_init_21 : decode cX0_init 21 = .ok (.bipush 12, 2) := by decide +kernel
theorem dX0_init_23 : decode cX0_init 23 = .ok (.newarray .int, 2) := by decide +kernel
theorem dX0_init_25 : decode cX0_init 25 = .ok (.putfield 16, 3) := by decide +kernel
theorem dX0_init_28 : decode cX0_init 28 = .ok (.aload_n 0, 1) := by decide +kernel
theorem dX0_init_29 : decode cX0_init 29 = .ok (.iconst 0, 1) := by decide +kernel
theorem dX0_init_30 : decode cX0_init 30 = .ok (.putfield 19, 3) := by decide +kernel
theorem dX0_init_33 : decode cX0_init 33 = .ok (.aload_n 0, 1) := by decide +kernel
theorem dX0_init_34 : decode cX0_init 34 = .ok (.bipush 10, 2) := by decide +kernel
theorem dX0_init_36 : decode cX0_init 36 = .ok (.putfield 23, 3) := by decide +kernel
theorem dX0_init_39 : decode cX0_init 39 = .ok (.aload_n 0, 1) := by decide +kernel
theorem dX0_init_40 : decode cX0_init 40 = .ok (.iconst 5, 1) := by decide +kernel
theorem dX0_init_41 : decode cX0_init 41 = .ok (.putfield 26, 3) := by decide +kernel
theorem dX0_init_44 : decode cX0_init 44 = .ok (.aload_n 0, 1) := by decide +kernel
theorem dX0_init_45 : decode cX0_init 45 = .ok (.iconst 2, 1) := by decide +kernel
theorem dX0_init_46 : decode cX0_init 46 = .ok (.putfield 29, 3) := by decide +kernel
theorem dX0_init_49 : decode cX0_init 49 = .ok (.aload_n 0, 1) := by decide +kernel
theorem dX0_init_50 : decode cX0_init 50 = .ok (.bipush 16, 2) := by decide +kernel
theorem dX0_init_52 : decode cX0_init 52 = .ok (.newarray .int, 2) := by decide +kernel
theorem dX0_init_54 : decode cX0_init 54 = .ok (.putfield 32, 3) := by decide +kernel
theorem dX0_init_57 : decode cX0_init 57 = .ok (.aload_n 0, 1) := by decide +kernel
theorem dX0_init_58 : decode cX0_init 58 = .ok (.bipush 16, 2) := by decide +kernel
theorem dX0_init_60 : decode cX0_init 60 = .ok (.newarray .boolean, 2) := by decide +kernel
theorem dX0_init_62 : decode cX0_init 62 = .ok (.putfield 35, 3) := by decide +kernel
theorem dX0_init_65 : decode cX0_init 65 = .ok (.aload_n 0, 1) := by decide +kernel
theorem dX0_init_66 : decode cX0_init 66 = .ok (.iconst 0, 1) := by decide +kernel
theorem dX0_init_67 : decode cX0_init 67 = .ok (.putfield 39, 3) := by decide +kernel
theorem dX0_init_70 : decode cX0_init 70 = .ok (.aload_n 0, 1) := by decide +kernel
theorem dX0_init_71 : decode cX0_init 71 = .ok (.iconst 0, 1) := by decide +kernel
theorem dX0_init_72 : decode cX0_init 72 = .ok (.putfield 42, 3) := by decide +kernel
theorem dX0_init_75 : decode cX0_init 75 = .ok (.aload_n 0, 1) := by decide +kernel
theorem dX0_init_76 : decode cX0_init 76 = .ok (.iconst 0, 1) := by decide +kernel
theorem dX0_init_77 : decode cX0_init 77 = .ok (.putfield 45, 3) := by decide +kernel
theorem dX0_init_80 : decode cX0_init 80 = .ok (.aload_n 0, 1) := by decide +kernel
theorem dX0_init_81 : decode cX0_init 81 = .ok (.bipush 16, 2) := by decide +kernel
theorem dX0_init_83 : decode cX0_init 83 = .ok (.newarray .int, 2) := by decide +kernel
theorem dX0_init_85 : decode cX0_init 85 = .ok (.putfield 48, 3) := by decide +kernel
theorem dX0_init_88 : decode cX0_init 88 = .ok (.aload_n 0, 1) := by decide +kernel
theorem dX0_init_89 : decode cX0_init 89 = .ok (.bipush 16, 2) := by decide +kernel
theorem dX0_init_91 : decode cX0_init 91 = .ok (.newarray .int, 2) := by decide +kernel
theorem dX0_init_93 : decode cX0_init 93 = .ok (.putfield 51, 3) := by decide +kernel
theorem dX0_init_96 : decode cX0_init 96 = .ok (.aload_n 0, 1) := by decide +kernel
theorem dX0_init_97 : decode cX0_init 97 = .ok (.bipush 16, 2) := by decide +kernel
theorem dX0_init_99 : decode cX0_init 99 = .ok (.newarray .int, 2) := by decide +kernel
theorem dX0_init_101 : decode cX0_init 101 = .ok (.putfield 54, 3) := by decide +kernel
theorem dX0_init_104 : decode cX0_init 104 = .ok (.aload_n 0, 1) := by decide +kernel
theorem dX0_init_105 : decode cX0_init 105 = .ok (.bipush 18, 2) := by decide +kernel
theorem dX0_init_107 : decode cX0_init 107 = .ok (.newarray .int, 2) := by decide +kernel
theorem dX0_init_109 : decode cX0_init 109 = .ok (.putfield 57, 3) := by decide +kernel
theorem dX0_init_112 : decode cX0_init 112 = .ok (.aload_n 0, 1) := by decide +kernel
theorem dX0_init_113 : decode cX0_init 113 = .ok (.bipush 16, 2) := by decide +kernel
theorem dX0_init_115 : decode cX0_init 115 = .ok (.newarray .int, 2) := by decide +kernel
theorem dX0_init_117 : decode cX0_init 117 = .ok (.putfield 60, 3) := by decide +kernel
theorem dX0_init_120 : decode cX0_init 120 = .ok (.aload_n 0, 1) := by decide +kernel
theorem dX0_init_121 : decode cX0_init 121 = .ok (.bipush 16, 2) := by decide +kernel
theorem dX0_init_123 : decode cX0_init 123 = .ok (.newarray .boolean, 2) := by decide +kernel
theorem dX0_init_125 : decode cX0_init 125 = .ok (.putfield 63, 3) := by decide +kernel
theorem dX0_init_128 : decode cX0_init 128 = .ok (.return_, 1) := by decide +kernel
theorem dX0_addWord_0 : decode cX0_addWord 0 = .ok (.iload_n 1, 1) := by decide +kernel
theorem dX0_addWord_1 : decode cX0_addWord 1 = .ok (.iconst 1, 1) := by decide +kernel
theorem dX0_addWord_2 : decode cX0_addWord 2 = .ok (.if_icmp .lt 9, 3) := by decide +kernel
theorem dX0_addWord_5 : decode cX0_addWord 5 = .ok (.iload_n 1, 1) := by decide +kernel
theorem dX0_addWord_6 : decode cX0_addWord 6 = .ok (.bipush 30, 2) := by decide +kernel
theorem dX0_addWord_8 : decode cX0_addWord 8 = .ok (.if_icmp .le 13, 3) := by decide +kernel
theorem dX0_addWord_11 : decode cX0_addWord 11 = .ok (.new 66, 3) := by decide +kernel
theorem dX0_addWord_14 : decode cX0_addWord 14 = .ok (.dup, 1) := by decide +kernel
theorem dX0_addWord_15 : decode cX0_addWord 15 = .ok (.ldc 68, 2) := by decide +kernel
theorem dX0_addWord_17 : decode cX0_addWord 17 = .ok (.invokespecial 70, 3) := by decide +kernel
theorem dX0_addWord_20 : decode cX0_addWord 20 = .ok (.athrow, 1) := by decide +kernel
theorem dX0_addWord_21 : decode cX0_addWord 21 = .ok (.aload_n 0, 1) := by decide +kernel
theorem dX0_addWord_22 : decode cX0_addWord 22 = .ok (.getfield 19, 3) := by decide +kernel
theorem dX0_addWord_25 : decode cX0_addWord 25 = .ok (.bipush 12, 2) := by decide +kernel
theorem dX0_addWord_27 : decode cX0_addWord 27 = .ok (.if_icmp .lt 13, 3) := by decide +kernel
theorem dX0_addWord_30 : decode cX0_addWord 30 = .ok (.new 73, 3) := by decide +kernel
theorem dX0_addWord_33 : decode cX0_addWord 33 = .ok (.dup, 1) := by decide +kernel
theorem dX0_addWord_34 : decode cX0_addWord 34 = .ok (.ldc 75, 2) := by decide +kernel
theorem dX0_addWord_36 : decode cX0_addWord 36 = .ok (.invokespecial 77, 3) := by decide +kernel
theorem dX0_addWord_39 : decode cX0_addWord 39 = .ok (.athrow, 1) := by decide +kernel
theorem dX0_addWord_40 : decode cX0_addWord 40 = .ok (.aload_n 0, 1) := by decide +kernel
theorem dX0_addWord_41 : decode cX0_addWord 41 = .ok (.getfield 19, 3) := by decide +kernel
theorem dX0_addWord_44 : decode cX0_addWord 44 = .ok (.istore_n 2, 1) := by decide +kernel
theorem dX0_addWord_45 : decode cX0_addWord 45 = .ok (.aload_n 0, 1) := by decide +kernel
theorem dX0_addWord_46 : decode cX0_addWord 46 = .ok (.getfield 9, 3) := by decide +kernel
theorem dX0_addWord_49 : decode cX0_addWord 49 = .ok (.iload_n 2, 1) := by decide +kernel
theorem dX0_addWord_50 : decode cX0_addWord 50 = .ok (.iload_n 1, 1) := by decide +kernel
theorem dX0_addWord_51 : decode cX0_addWord 51 = .ok (.iastore, 1) := by decide +kernel
theorem dX0_addWord_52 : decode cX0_addWord 52 = .ok (.aload_n 0, 1) := by decide +kernel
theorem dX0_addWord_53 : decode cX0_addWord 53 = .ok (.getfield 13, 3) := by decide +kernel
theorem dX0_addWord_56 : decode cX0_addWord 56 = .ok (.iload_n 2, 1) := by decide +kernel
theorem dX0_addWord_57 : decode cX0_addWord 57 = .ok (.iconst 1, 1) := by decide +kernel
theorem dX0_addWord_58 : decode cX0_addWord 58 = .ok (.iload_n 2, 1) := by decide +kernel
theorem dX0_addWord_59 : decode cX0_addWord 59 = .ok (.ishl, 1) := by decide +kernel
theorem dX0_addWord_60 : decode cX0_addWord 60 = .ok (.iastore, 1) := by decide +kernel
theorem dX0_addWord_61 : decode cX0_addWord 61 = .ok (.aload_n 0, 1) := by decide +kernel
theorem dX0_addWord_62 : decode cX0_addWord 62 = .ok (.getfield 16, 3) := by decide +kernel
theorem dX0_addWord_65 : decode cX0_addWord 65 = .ok (.iload_n 2, 1) := by decide +kernel
theorem dX0_addWord_66 : decode cX0_addWord 66 = .ok (.iconst 0, 1) := by decide +kernel
theorem dX0_addWord_67 : decode cX0_addWord 67 = .ok (.iastore, 1) := by decide +kernel
theorem dX0_addWord_68 : decode cX0_addWord 68 = .ok (.aload_n 0, 1) := by decide +kernel
theorem dX0_addWord_69 : decode cX0_addWord 69 = .ok (.dup, 1) := by decide +kernel
theorem dX0_addWord_70 : decode cX0_addWord 70 = .ok (.getfield 19, 3) := by decide +kernel
theorem dX0_addWord_73 : decode cX0_addWord 73 = .ok (.iconst 1, 1) := by decide +kernel
theorem dX0_addWord_74 : decode cX0_addWord 74 = .ok (.iadd, 1) := by decide +kernel
theorem dX0_addWord_75 : decode cX0_addWord 75 = .ok (.putfield 19, 3) := by decide +kernel
theorem dX0_addWord_78 : decode cX0_addWord 78 = .ok (.iload_n 2, 1) := by decide +kernel
theorem dX0_addWord_79 : decode cX0_addWord 79 = .ok (.ireturn, 1) := by decide +kernel
set_option maxRecDepth 20000 in
theorem ggX0_turnStandIn_X0_needWord : GoodIn wsX0_turnStandIn wsX0_needWord := goodIn_ca (goodIn_r _ [8, 9, 10, 11, 15, 16, 17, 18, 19, 20, 21, 22, 23, 24, 25, 26, 27, 28, 29, 30, 31, 32] (by decide +kernel) (by decide +kernel)) (goodIn_sub (fun _ h => List.mem_cons_of_mem _ (List.mem_append_right _ h)) (by decide +kernel))
set_option maxRecDepth 20000 in
theorem gX0_turnStandIn_X0_needWord : GoodIn wsX0_turnStandIn (wsV RX0 78 RX0 yX0_needWord wsX0_needWord) := goodIn_app (goodIn_of _ (by decide +kernel)) ggX0_turnStandIn_X0_needWord
set_option maxRecDepth 20000 in
theorem ggX0_turnStandIn_X0_hasBit : GoodIn wsX0_turnStandIn wsX0_hasBit := goodIn_r _ [14] (by decide +kernel) (by decide +kernel)
set_option maxRecDepth 20000 in
theorem gX0_turnStandIn_X0_hasBit : GoodIn wsX0_turnStandIn (va_wsS RX0 84 yX0_hasBit wsX0_hasBit) := goodIn_app (goodIn_of _ (by decide +kernel)) ggX0_turnStandIn_X0_hasBit
theorem dX0_turnStandIn_0 : decode cX0_turnStandIn 0 = .ok (.aload_n 0, 1) := by decide +kernel
theorem dX0_turnStandIn_1 : decode cX0_turnStandIn 1 = .ok (.iload_n 1, 1) := by decide +kernel
theorem dX0_turnStandIn_2 : decode cX0_turnStandIn 2 = .ok (.invokevirtual 78, 3) := by decide +kernel
theorem dX0_turnStandIn_5 : decode cX0_turnStandIn 5 = .ok (.aload_n 0, 1) := by decide +kernel
theorem dX0_turnStandIn_6 : decode cX0_turnStandIn 6 = .ok (.iload_n 2, 1) := by decide +kernel
theorem dX0_turnStandIn_7 : decode cX0_turnStandIn 7 = .ok (.invokevirtual 78, 3) := by decide +kernel
theorem dX0_turnStandIn_10 : decode cX0_turnStandIn 10 = .ok (.iload_n 1, 1) := by decide +kernel
theorem dX0_turnStandIn_11 : decode cX0_turnStandIn 11 = .ok (.iload_n 2, 1) := by decide +kernel
theorem dX0_turnStandIn_12 : decode cX0_turnStandIn 12 = .ok (.if_icmp .ne 13, 3) := by decide +kernel
theorem dX0_turnStandIn_15 : decode cX0_turnStandIn 15 = .ok (.new 66, 3) := by decide +kernel
theorem dX0_turnStandIn_18 : decode cX0_turnStandIn 18 = .ok (.dup, 1) := by decide +kernel
theorem dX0_turnStandIn_19 : decode cX0_turnStandIn 19 = .ok (.ldc 82, 2) := by decide +kernel
theorem dX0_turnStandIn_21 : decode cX0_turnStandIn 21 = .ok (.invokespecial 70, 3) := by decide +kernel
theorem dX0_turnStandIn_24 : decode cX0_turnStandIn 24 = .ok (.athrow, 1) := by decide +kernel
theorem dX0_turnStandIn_25 : decode cX0_turnStandIn 25 = .ok (.aload_n 0, 1) := by decide +kernel
theorem dX0_turnStandIn_26 : decode cX0_turnStandIn 26 = .ok (.getfield 13, 3) := by decide +kernel
theorem dX0_turnStandIn_29 : decode cX0_turnStandIn 29 = .ok (.iload_n 1, 1) := by decide +kernel
theorem dX0_turnStandIn_30 : decode cX0_turnStandIn 30 = .ok (.dup2, 1) := by decide +kernel
theorem dX0_turnStandIn_31 : decode cX0_turnStandIn 31 = .ok (.iaload, 1) := by decide +kernel
theorem dX0_turnStandIn_32 : decode cX0_turnStandIn 32 = .ok (.iconst 1, 1) := by decide +kernel
theorem dX0_turnStandIn_33 : decode cX0_turnStandIn 33 = .ok (.iload_n 2, 1) := by decide +kernel
theorem dX0_turnStandIn_34 : decode cX0_turnStandIn 34 = .ok (.ishl, 1) := by decide +kernel
theorem dX0_turnStandIn_35 : decode cX0_turnStandIn 35 = .ok (.ixor, 1) := by decide +kernel
theorem dX0_turnStandIn_36 : decode cX0_turnStandIn 36 = .ok (.iastore, 1) := by decide +kernel
theorem dX0_turnStandIn_37 : decode cX0_turnStandIn 37 = .ok (.aload_n 0, 1) := by decide +kernel
theorem dX0_turnStandIn_38 : decode cX0_turnStandIn 38 = .ok (.getfield 13, 3) := by decide +kernel
theorem dX0_turnStandIn_41 : decode cX0_turnStandIn 41 = .ok (.iload_n 1, 1) := by decide +kernel
theorem dX0_turnStandIn_42 : decode cX0_turnStandIn 42 = .ok (.iaload, 1) := by decide +kernel
theorem dX0_turnStandIn_43 : decode cX0_turnStandIn 43 = .ok (.iload_n 2, 1) := by decide +kernel
theorem dX0_turnStandIn_44 : decode cX0_turnStandIn 44 = .ok (.invokestatic 84, 3) := by decide +kernel
theorem dX0_turnStandIn_47 : decode cX0_turnStandIn 47 = .ok (.ireturn, 1) := by decide +kernel
set_option maxRecDepth 20000 in
theorem ggX0_turnJoin_X0_needWord : GoodIn wsX0_turnJoin wsX0_needWord := goodIn_ca (goodIn_r _ [6, 7, 8, 9, 13, 14, 15, 16, 17, 18, 19, 20, 21, 22, 23, 24, 25, 26, 27, 28, 29, 30] (by decide +kernel) (by decide +kernel)) (goodIn_sub (fun _ h => List.mem_cons_of_mem _ (List.mem_append_right _ h)) (by decide +kernel))
set_option maxRecDepth 20000 in
theorem gX0_turnJoin_X0_needWord : GoodIn wsX0_turnJoin (wsV RX0 78 RX0 yX0_needWord wsX0_needWord) := goodIn_app (goodIn_of _ (by decide +kernel)) ggX0_turnJoin_X0_needWord
set_option maxRecDepth 20000 in
theorem ggX0_turnJoin_X0_hasBit : GoodIn wsX0_turnJoin wsX0_hasBit := goodIn_r _ [12] (by decide +kernel) (by decide +kernel)
set_option maxRecDepth 20000 in
theorem gX0_turnJoin_X0_hasBit : GoodIn wsX0_turnJoin (va_wsS RX0 84 yX0_hasBit wsX0_hasBit) := goodIn_app (goodIn_of _ (by decide +kernel)) ggX0_turnJoin_X0_hasBit
theorem dX0_turnJoin_0 : decode cX0_turnJoin 0 = .ok (.aload_n 0, 1) := by decide +kernel
theorem dX0_turnJoin_1 : decode cX0_turnJoin 1 = .ok (.iload_n 1, 1) := by decide +kernel
theorem dX0_turnJoin_2 : decode cX0_turnJoin 2 = .ok (.invokevirtual 78, 3) := by decide +kernel
theorem dX0_turnJoin_5 : decode cX0_turnJoin 5 = .ok (.aload_n 0, 1) := by decide +kernel
theorem dX0_turnJoin_6 : decode cX0_turnJoin 6 = .ok (.iload_n 2, 1) := by decide +kernel
theorem dX0_turnJoin_7 : decode cX0_turnJoin 7 = .ok (.invokevirtual 78, 3) := by decide +kernel
theorem dX0_turnJoin_10 : decode cX0_turnJoin 10 = .ok (.aload_n 0, 1) := by decide +kernel
theorem dX0_turnJoin_11 : decode cX0_turnJoin 11 = .ok (.getfield 16, 3) := by decide +kernel
theorem dX0_turnJoin_14 : decode cX0_turnJoin 14 = .ok (.iload_n 1, 1) := by decide +kernel
theorem dX0_turnJoin_15 : decode cX0_turnJoin 15 = .ok (.dup2, 1) := by decide +kernel
theorem dX0_turnJoin_16 : decode cX0_turnJoin 16 = .ok (.iaload, 1) := by decide +kernel
theorem dX0_turnJoin_17 : decode cX0_turnJoin 17 = .ok (.iconst 1, 1) := by decide +kernel
theorem dX0_turnJoin_18 : decode cX0_turnJoin 18 = .ok (.iload_n 2, 1) := by decide +kernel
theorem dX0_turnJoin_19 : decode cX0_turnJoin 19 = .ok (.ishl, 1) := by decide +kernel
theorem dX0_turnJoin_20 : decode cX0_turnJoin 20 = .ok (.ixor, 1) := by decide +kernel
theorem dX0_turnJoin_21 : decode cX0_turnJoin 21 = .ok (.iastore, 1) := by decide +kernel
theorem dX0_turnJoin_22 : decode cX0_turnJoin 22 = .ok (.aload_n 0, 1) := by decide +kernel
theorem dX0_turnJoin_23 : decode cX0_turnJoin 23 = .ok (.getfield 16, 3) := by decide +kernel
theorem dX0_turnJoin_26 : decode cX0_turnJoin 26 = .ok (.iload_n 1, 1) := by decide +kernel
theorem dX0_turnJoin_27 : decode cX0_turnJoin 27 = .ok (.iaload, 1) := by decide +kernel
theorem dX0_turnJoin_28 : decode cX0_turnJoin 28 = .ok (.iload_n 2, 1) := by decide +kernel
theorem dX0_turnJoin_29 : decode cX0_turnJoin 29 = .ok (.invokestatic 84, 3) := by decide +kernel
theorem dX0_turnJoin_32 : decode cX0_turnJoin 32 = .ok (.ireturn, 1) := by decide +kernel
theorem dX0_setLimit_0 : decode cX0_setLimit 0 = .ok (.iload_n 1, 1) := by decide +kernel
theorem dX0_setLimit_1 : decode cX0_setLimit 1 = .ok (.iconst 3, 1) := by decide +kernel
theorem dX0_setLimit_2 : decode cX0_setLimit 2 = .ok (.if_icmp .lt 9, 3) := by decide +kernel
theorem dX0_setLimit_5 : decode cX0_setLimit 5 = .ok (.iload_n 1, 1) := by decide +kernel
theorem dX0_setLimit_6 : decode cX0_setLimit 6 = .ok (.bipush 15, 2) := by decide +kernel
theorem dX0_setLimit_8 : decode cX0_setLimit 8 = .ok (.if_icmp .le 13, 3) := by decide +kernel
theorem dX0_setLimit_11 : decode cX0_setLimit 11 = .ok (.new 66, 3) := by decide +kernel
theorem dX0_setLimit_14 : decode cX0_setLimit 14 = .ok (.dup, 1) := by decide +kernel
theorem dX0_setLimit_15 : decode cX0_setLimit 15 = .ok (.ldc 88, 2) := by decide +kernel
theorem dX0_setLimit_17 : decode cX0_setLimit 17 = .ok (.invokespecial 70, 3) := by decide +kernel
theorem dX0_setLimit_20 : decode cX0_setLimit 20 = .ok (.athrow, 1) := by decide +kernel
theorem dX0_setLimit_21 : decode cX0_setLimit 21 = .ok (.aload_n 0, 1) := by decide +kernel
theorem dX0_setLimit_22 : decode cX0_setLimit 22 = .ok (.getfield 23, 3) := by decide +kernel
theorem dX0_setLimit_25 : decode cX0_setLimit 25 = .ok (.istore_n 2, 1) := by decide +kernel
theorem dX0_setLimit_26 : decode cX0_setLimit 26 = .ok (.aload_n 0, 1) := by decide +kernel
theorem dX0_setLimit_27 : decode cX0_setLimit 27 = .ok (.iload_n 1, 1) := by decide +kernel
theorem dX0_setLimit_28 : decode cX0_setLimit 28 = .ok (.putfield 23, 3) := by decide +kernel
theorem dX0_setLimit_31 : decode cX0_setLimit 31 = .ok (.iload_n 2, 1) := by decide +kernel
theorem dX0_setLimit_32 : decode cX0_setLimit 32 = .ok (.ireturn, 1) := by decide +kernel
theorem dX0_setLeastCount_0 : decode cX0_setLeastCount 0 = .ok (.iload_n 1, 1) := by decide +kernel
theorem dX0_setLeastCount_1 : decode cX0_setLeastCount 1 = .ok (.ifCond .lt 9, 3) := by decide +kernel
theorem dX0_setLeastCount_4 : decode cX0_setLeastCount 4 = .ok (.iload_n 1, 1) := by decide +kernel
theorem dX0_setLeastCount_5 : decode cX0_setLeastCount 5 = .ok (.bipush 20, 2) := by decide +kernel
theorem dX0_setLeastCount_7 : decode cX0_setLeastCount 7 = .ok (.if_icmp .le 13, 3) := by decide +kernel
theorem dX0_setLeastCount_10 : decode cX0_setLeastCount 10 = .ok (.new 66, 3) := by decide +kernel
theorem dX0_setLeastCount_13 : decode cX0_setLeastCount 13 = .ok (.dup, 1) := by decide +kernel
theorem dX0_setLeastCount_14 : decode cX0_setLeastCount 14 = .ok (.ldc 90, 2) := by decide +kernel
theorem dX0_setLeastCount_16 : decode cX0_setLeastCount 16 = .ok (.invokespecial 70, 3) := by decide +kernel
theorem dX0_setLeastCount_19 : decode cX0_setLeastCount 19 = .ok (.athrow, 1) := by decide +kernel
theorem dX0_setLeastCount_20 : decode cX0_setLeastCount 20 = .ok (.aload_n 0, 1) := by decide +kernel
theorem dX0_setLeastCount_21 : decode cX0_setLeastCount 21 = .ok (.getfield 26, 3) := by decide +kernel
theorem dX0_setLeastCount_24 : decode cX0_setLeastCount 24 = .ok (.istore_n 2, 1) := by decide +kernel
theorem dX0_setLeastCount_25 : decode cX0_setLeastCount 25 = .ok (.aload_n 0, 1) := by decide +kernel
theorem dX0_setLeastCount_26 : decode cX0_setLeastCount 26 = .ok (.iload_n 1, 1) := by decide +kernel
theorem dX0_setLeastCount_27 : decode cX0_setLeastCount 27 = .ok (.putfield 26, 3) := by decide +kernel
theorem dX0_setLeastCount_30 : decode cX0_setLeastCount 30 = .ok (.iload_n 2, 1) := by decide +kernel
theorem dX0_setLeastCount_31 : decode cX0_setLeastCount 31 = .ok (.ireturn, 1) := by decide +kernel
theorem dX0_setCoins_0 : decode cX0_setCoins 0 = .ok (.iload_n 1, 1) := by decide +kernel
theorem dX0_setCoins_1 : decode cX0_setCoins 1 = .ok (.iconst 1, 1) := by decide +kernel
theorem dX0_setCoins_2 : decode cX0_setCoins 2 = .ok (.if_icmp .lt 9, 3) := by decide +kernel
theorem dX0_setCoins_5 : decode cX0_setCoins 5 = .ok (.iload_n 1, 1) := by decide +kernel
theorem dX0_setCoins_6 : decode cX0_setCoins 6 = .ok (.bipush 50, 2) := by decide +kernel
theorem dX0_setCoins_8 : decode cX0_setCoins 8 = .ok (.if_icmp .le 13, 3) := by decide +kernel
theorem dX0_setCoins_11 : decode cX0_setCoins 11 = .ok (.new 66, 3) := by decide +kernel
theorem dX0_setCoins_14 : decode cX0_setCoins 14 = .ok (.dup, 1) := by decide +kernel
theorem dX0_setCoins_15 : decode cX0_setCoins 15 = .ok (.ldc 92, 2) := by decide +kernel
theorem dX0_setCoins_17 : decode cX0_setCoins 17 = .ok (.invokespecial 70, 3) := by decide +kernel
theorem dX0_setCoins_20 : decode cX0_setCoins 20 = .ok (.athrow, 1) := by decide +kernel
theorem dX0_setCoins_21 : decode cX0_setCoins 21 = .ok (.aload_n 0, 1) := by decide +kernel
theorem dX0_setCoins_22 : decode cX0_setCoins 22 = .ok (.getfield 29, 3) := by decide +kernel
theorem dX0_setCoins_25 : decode cX0_setCoins 25 = .ok (.istore_n 2, 1) := by decide +kernel
theorem dX0_setCoins_26 : decode cX0_setCoins 26 = .ok (.aload_n 0, 1) := by decide +kernel
theorem dX0_setCoins_27 : decode cX0_setCoins 27 = .ok (.iload_n 1, 1) := by decide +kernel
theorem dX0_setCoins_28 : decode cX0_setCoins 28 = .ok (.putfield 29, 3) := by decide +kernel
theorem dX0_setCoins_31 : decode cX0_setCoins 31 = .ok (.iload_n 2, 1) := by decide +kernel
theorem dX0_setCoins_32 : decode cX0_setCoins 32 = .ok (.ireturn, 1) := by decide +kernel
set_option maxRecDepth 20000 in
theorem ggX0_write_X0_needWord : GoodIn wsX0_write wsX0_needWord := goodIn_ca (goodIn_r _ [10, 11, 12, 13, 14, 15, 16, 17, 18, 19, 20, 21, 22, 23, 24, 25, 26, 27, 28, 29, 30, 31] (by decide +kernel) (by decide +kernel)) (goodIn_sub (fun _ h => List.mem_cons_of_mem _ (List.mem_append_right _ h)) (by decide +kernel))
set_option maxRecDepth 20000 in
theorem gX0_write_X0_needWord : GoodIn wsX0_write (wsV RX0 78 RX0 yX0_needWord wsX0_needWord) := goodIn_app (goodIn_of _ (by decide +kernel)) ggX0_write_X0_needWord
theorem dX0_write_0 : decode cX0_write 0 = .ok (.aload_n 0, 1) := by decide +kernel
theorem dX0_write_1 : decode cX0_write 1 = .ok (.iload_n 1, 1) := by decide +kernel
theorem dX0_write_2 : decode cX0_write 2 = .ok (.invokevirtual 78, 3) := by decide +kernel
theorem dX0_write_5 : decode cX0_write 5 = .ok (.aload_n 0, 1) := by decide +kernel
theorem dX0_write_6 : decode cX0_write 6 = .ok (.getfield 39, 3) := by decide +kernel
theorem dX0_write_9 : decode cX0_write 9 = .ok (.bipush 16, 2) := by decide +kernel
theorem dX0_write_11 : decode cX0_write 11 = .ok (.if_icmp .lt 13, 3) := by decide +kernel
theorem dX0_write_14 : decode cX0_write 14 = .ok (.new 73, 3) := by decide +kernel
theorem dX0_write_17 : decode cX0_write 17 = .ok (.dup, 1) := by decide +kernel
theorem dX0_write_18 : decode cX0_write 18 = .ok (.ldc 94, 2) := by decide +kernel
theorem dX0_write_20 : decode cX0_write 20 = .ok (.invokespecial 77, 3) := by decide +kernel
theorem dX0_write_23 : decode cX0_write 23 = .ok (.athrow, 1) := by decide +kernel
theorem dX0_write_24 : decode cX0_write 24 = .ok (.aload_n 0, 1) := by decide +kernel
theorem dX0_write_25 : decode cX0_write 25 = .ok (.getfield 32, 3) := by decide +kernel
theorem dX0_write_28 : decode cX0_write 28 = .ok (.aload_n 0, 1) := by decide +kernel
theorem dX0_write_29 : decode cX0_write 29 = .ok (.getfield 39, 3) := by decide +kernel
theorem dX0_write_32 : decode cX0_write 32 = .ok (.iload_n 1, 1) := by decide +kernel
theorem dX0_write_33 : decode cX0_write 33 = .ok (.iastore, 1) := by decide +kernel
theorem dX0_write_34 : decode cX0_write 34 = .ok (.aload_n 0, 1) := by decide +kernel
theorem dX0_write_35 : decode cX0_write 35 = .ok (.getfield 35, 3) := by decide +kernel
theorem dX0_write_38 : decode cX0_write 38 = .ok (.aload_n 0, 1) := by decide +kernel
theorem dX0_write_39 : decode cX0_write 39 = .ok (.getfield 39, 3) := by decide +kernel
theorem dX0_write_42 : decode cX0_write 42 = .ok (.iconst 0, 1) := by decide +kernel
theorem dX0_write_43 : decode cX0_write 43 = .ok (.bastore, 1) := by decide +kernel
theorem dX0_write_44 : decode cX0_write 44 = .ok (.aload_n 0, 1) := by decide +kernel
theorem dX0_write_45 : decode cX0_write 45 = .ok (.dup, 1) := by decide +kernel
theorem dX0_write_46 : decode cX0_write 46 = .ok (.getfield 39, 3) := by decide +kernel
theorem dX0_write_49 : decode cX0_write 49 = .ok (.iconst 1, 1) := by decide +kernel
theorem dX0_write_50 : decode cX0_write 50 = .ok (.iadd, 1) := by decide +kernel
theorem dX0_write_51 : decode cX0_write 51 = .ok (.putfield 39, 3) := by decide +kernel
theorem dX0_write_54 : decode cX0_write 54 = .ok (.aload_n 0, 1) := by decide +kernel
theorem dX0_write_55 : decode cX0_write 55 = .ok (.getfield 39, 3) := by decide +kernel
theorem dX0_write_58 : decode cX0_write 58 = .ok (.ireturn, 1) := by decide +kernel
set_option maxRecDepth 20000 in
theorem ggX0_strike_X0_needPlace : GoodIn wsX0_strike wsX0_needPlace := goodIn_ca (goodIn_r _ [8, 9, 10, 2, 11, 12, 13, 14, 15, 16, 17, 18, 19, 20, 21, 22, 23, 24, 25, 26, 27, 28] (by decide +kernel) (by decide +kernel)) (goodIn_sub (fun _ h => List.mem_cons_of_mem _ (List.mem_append_right _ h)) (by decide +kernel))
set_option maxRecDepth 20000 in
theorem gX0_strike_X0_needPlace : GoodIn wsX0_strike (wsV RX0 96 RX0 yX0_needPlace wsX0_needPlace) := goodIn_app (goodIn_of _ (by decide +kernel)) ggX0_strike_X0_needPlace
theorem dX0_strike_0 : decode cX0_strike 0 = .ok (.aload_n 0, 1) := by decide +kernel
theorem dX0_strike_1 : decode cX0_strike 1 = .ok (.iload_n 1, 1) := by decide +kernel
theorem dX0_strike_2 : decode cX0_strike 2 = .ok (.invokevirtual 96, 3) := by decide +kernel
theorem dX0_strike_5 : decode cX0_strike 5 = .ok (.iload_n 1, 1) := by decide +kernel
theorem dX0_strike_6 : decode cX0_strike 6 = .ok (.ifCond .le 12, 3) := by decide +kernel
theorem dX0_strike_9 : decode cX0_strike 9 = .ok (.aload_n 0, 1) := by decide +kernel
theorem dX0_strike_10 : decode cX0_strike 10 = .ok (.getfield 35, 3) := by decide +kernel
theorem dX0_strike_13 : decode cX0_strike 13 = .ok (.iload_n 1, 1) := by decide +kernel
theorem dX0_strike_14 : decode cX0_strike 14 = .ok (.iconst 1, 1) := by decide +kernel
theorem dX0_strike_15 : decode cX0_strike 15 = .ok (.isub, 1) := by decide +kernel
theorem dX0_strike_16 : decode cX0_strike 16 = .ok (.iconst 0, 1) := by decide +kernel
theorem dX0_strike_17 : decode cX0_strike 17 = .ok (.bastore, 1) := by decide +kernel
theorem dX0_strike_18 : decode cX0_strike 18 = .ok (.iload_n 1, 1) := by decide +kernel
theorem dX0_strike_19 : decode cX0_strike 19 = .ok (.istore_n 2, 1) := by decide +kernel
theorem dX0_strike_20 : decode cX0_strike 20 = .ok (.iload_n 2, 1) := by decide +kernel
theorem dX0_strike_21 : decode cX0_strike 21 = .ok (.iconst 1, 1) := by decide +kernel
theorem dX0_strike_22 : decode cX0_strike 22 = .ok (.iadd, 1) := by decide +kernel
theorem dX0_strike_23 : decode cX0_strike 23 = .ok (.aload_n 0, 1) := by decide +kernel
theorem dX0_strike_24 : decode cX0_strike 24 = .ok (.getfield 39, 3) := by decide +kernel
theorem dX0_strike_27 : decode cX0_strike 27 = .ok (.if_icmp .ge 37, 3) := by decide +kernel
theorem dX0_strike_30 : decode cX0_strike 30 = .ok (.aload_n 0, 1) := by decide +kernel
theorem dX0_strike_31 : decode cX0_strike 31 = .ok (.getfield 32, 3) := by decide +kernel
theorem dX0_strike_34 : decode cX0_strike 34 = .ok (.iload_n 2, 1) := by decide +kernel
theorem dX0_strike_35 : decode cX0_strike 35 = .ok (.aload_n 0, 1) := by decide +kernel
theorem dX0_strike_36 : decode cX0_strike 36 = .ok (.getfield 32, 3) := by decide +kernel
theorem dX0_strike_39 : decode cX0_strike 39 = .ok (.iload_n 2, 1) := by decide +kernel
theorem dX0_strike_40 : decode cX0_strike 40 = .ok (.iconst 1, 1) := by decide +kernel
theorem dX0_strike_41 : decode cX0_strike 41 = .ok (.iadd, 1) := by decide +kernel
theorem dX0_strike_42 : decode cX0_strike 42 = .ok (.iaload, 1) := by decide +kernel
theorem dX0_strike_43 : decode cX0_strike 43 = .ok (.iastore, 1) := by decide +kernel
theorem dX0_strike_44 : decode cX0_strike 44 = .ok (.aload_n 0, 1) := by decide +kernel
theorem dX0_strike_45 : decode cX0_strike 45 = .ok (.getfield 35, 3) := by decide +kernel
theorem dX0_strike_48 : decode cX0_strike 48 = .ok (.iload_n 2, 1) := by decide +kernel
theorem dX0_strike_49 : decode cX0_strike 49 = .ok (.aload_n 0, 1) := by decide +kernel
theorem dX0_strike_50 : decode cX0_strike 50 = .ok (.getfield 35, 3) := by decide +kernel
theorem dX0_strike_53 : decode cX0_strike 53 = .ok (.iload_n 2, 1) := by decide +kernel
theorem dX0_strike_54 : decode cX0_strike 54 = .ok (.iconst 1, 1) := by decide +kernel
theorem dX0_strike_55 : decode cX0_strike 55 = .ok (.iadd, 1) := by decide +kernel
theorem dX0_strike_56 : decode cX0_strike 56 = .ok (.baload, 1) := by decide +kernel
theorem dX0_strike_57 : decode cX0_strike 57 = .ok (.bastore, 1) := by decide +kernel
theorem dX0_strike_58 : decode cX0_strike 58 = .ok (.iinc 2 1, 3) := by decide +kernel
theorem dX0_strike_61 : decode cX0_strike 61 = .ok (.goto (-41), 3) := by decide +kernel
theorem dX0_strike_64 : decode cX0_strike 64 = .ok (.aload_n 0, 1) := by decide +kernel
theorem dX0_strike_65 : decode cX0_strike 65 = .ok (.dup, 1) := by decide +kernel
theorem dX0_strike_66 : decode cX0_strike 66 = .ok (.getfield 39, 3) := by decide +kernel
theorem dX0_strike_69 : decode cX0_strike 69 = .ok (.iconst 1, 1) := by decide +kernel
theorem dX0_strike_70 : decode cX0_strike 70 = .ok (.isub, 1) := by decide +kernel
theorem dX0_strike_71 : decode cX0_strike 71 = .ok (.putfield 39, 3) := by decide +kernel
theorem dX0_strike_74 : decode cX0_strike 74 = .ok (.aload_n 0, 1) := by decide +kernel
theorem dX0_strike_75 : decode cX0_strike 75 = .ok (.getfield 39, 3) := by decide +kernel
theorem dX0_strike_78 : decode cX0_strike 78 = .ok (.ireturn, 1) := by decide +kernel
set_option maxRecDepth 20000 in
theorem ggX0_turnJoined_X0_needPlace : GoodIn wsX0_turnJoined wsX0_needPlace := goodIn_ca (goodIn_r _ [8, 9, 10, 11, 21, 22, 23, 24, 25, 26, 27, 28, 29, 30, 31, 32, 33, 34, 35, 36, 37, 38] (by decide +kernel) (by decide +kernel)) (goodIn_sub (fun _ h => List.mem_cons_of_mem _ (List.mem_append_right _ h)) (by decide +kernel))
set_option maxRecDepth 20000 in
theorem gX0_turnJoined_X0_needPlace : GoodIn wsX0_turnJoined (wsV RX0 96 RX0 yX0_needPlace wsX0_needPlace) := goodIn_app (goodIn_of _ (by decide +kernel)) ggX0_turnJoined_X0_needPlace
set_option maxRecDepth 20000 in
theorem ggX0_turnJoined_X0_couldBeJoined : GoodIn wsX0_turnJoined wsX0_couldBeJoined := goodIn_r _ [15, 3, 16, 17, 18, 19, 7, 20, 21, 22, 23, 24, 25, 26, 27, 28, 29, 30, 31, 32, 33, 34, 35, 36, 37, 38] (by decide +kernel) (by decide +kernel)
set_option maxRecDepth 20000 in
theorem gX0_turnJoined_X0_couldBeJoined : GoodIn wsX0_turnJoined (wsV RX0 99 RX0 yX0_couldBeJoined wsX0_couldBeJoined) := goodIn_app (goodIn_of _ (by decide +kernel)) ggX0_turnJoined_X0_couldBeJoined
theorem dX0_turnJoined_0 : decode cX0_turnJoined 0 = .ok (.aload_n 0, 1) := by decide +kernel
theorem dX0_turnJoined_1 : decode cX0_turnJoined 1 = .ok (.iload_n 1, 1) := by decide +kernel
theorem dX0_turnJoined_2 : decode cX0_turnJoined 2 = .ok (.invokevirtual 96, 3) := by decide +kernel
theorem dX0_turnJoined_5 : decode cX0_turnJoined 5 = .ok (.aload_n 0, 1) := by decide +kernel
theorem dX0_turnJoined_6 : decode cX0_turnJoined 6 = .ok (.iload_n 1, 1) := by decide +kernel
theorem dX0_turnJoined_7 : decode cX0_turnJoined 7 = .ok (.iconst 1, 1) := by decide +kernel
theorem dX0_turnJoined_8 : decode cX0_turnJoined 8 = .ok (.iadd, 1) := by decide +kernel
theorem dX0_turnJoined_9 : decode cX0_turnJoined 9 = .ok (.invokevirtual 96, 3) := by decide +kernel
theorem dX0_turnJoined_12 : decode cX0_turnJoined 12 = .ok (.aload_n 0, 1) := by decide +kernel
theorem dX0_turnJoined_13 : decode cX0_turnJoined 13 = .ok (.getfield 35, 3) := by decide +kernel
theorem dX0_turnJoined_16 : decode cX0_turnJoined 16 = .ok (.iload_n 1, 1) := by decide +kernel
theorem dX0_turnJoined_17 : decode cX0_turnJoined 17 = .ok (.baload, 1) := by decide +kernel
theorem dX0_turnJoined_18 : decode cX0_turnJoined 18 = .ok (.ifCond .ne 21, 3) := by decide +kernel
theorem dX0_turnJoined_21 : decode cX0_turnJoined 21 = .ok (.aload_n 0, 1) := by decide +kernel
theorem dX0_turnJoined_22 : decode cX0_turnJoined 22 = .ok (.iload_n 1, 1) := by decide +kernel
theorem dX0_turnJoined_23 : decode cX0_turnJoined 23 = .ok (.invokevirtual 99, 3) := by decide +kernel
theorem dX0_turnJoined_26 : decode cX0_turnJoined 26 = .ok (.ifCond .ne 13, 3) := by decide +kernel
theorem dX0_turnJoined_29 : decode cX0_turnJoined 29 = .ok (.new 73, 3) := by decide +kernel
theorem dX0_turnJoined_32 : decode cX0_turnJoined 32 = .ok (.dup, 1) := by decide +kernel
theorem dX0_turnJoined_33 : decode cX0_turnJoined 33 = .ok (.ldc 103, 2) := by decide +kernel
theorem dX0_turnJoined_35 : decode cX0_turnJoined 35 = .ok (.invokespecial 77, 3) := by decide +kernel
theorem dX0_turnJoined_38 : decode cX0_turnJoined 38 = .ok (.athrow, 1) := by decide +kernel
theorem dX0_turnJoined_39 : decode cX0_turnJoined 39 = .ok (.aload_n 0, 1) := by decide +kernel
theorem dX0_turnJoined_40 : decode cX0_turnJoined 40 = .ok (.getfield 35, 3) := by decide +kernel
theorem dX0_turnJoined_43 : decode cX0_turnJoined 43 = .ok (.iload_n 1, 1) := by decide +kernel
theorem dX0_turnJoined_44 : decode cX0_turnJoined 44 = .ok (.aload_n 0, 1) := by decide +kernel
theorem dX0_turnJoined_45 : decode cX0_turnJoined 45 = .ok (.getfield 35, 3) := by decide +kernel
theorem dX0_turnJoined_48 : decode cX0_turnJoined 48 = .ok (.iload_n 1, 1) := by decide +kernel
theorem dX0_turnJoined_49 : decode cX0_turnJoined 49 = .ok (.baload, 1) := by decide +kernel
theorem dX0_turnJoined_50 : decode cX0_turnJoined 50 = .ok (.ifCond .ne 7, 3) := by decide +kernel
theorem dX0_turnJoined_53 : decode cX0_turnJoined 53 = .ok (.iconst 1, 1) := by decide +kernel
theorem dX0_turnJoined_54 : decode cX0_turnJoined 54 = .ok (.goto 4, 3) := by decide +kernel
theorem dX0_turnJoined_57 : decode cX0_turnJoined 57 = .ok (.iconst 0, 1) := by decide +kernel
theorem dX0_turnJoined_58 : decode cX0_turnJoined 58 = .ok (.bastore, 1) := by decide +kernel
theorem dX0_turnJoined_59 : decode cX0_turnJoined 59 = .ok (.aload_n 0, 1) := by decide +kernel
theorem dX0_turnJoined_60 : decode cX0_turnJoined 60 = .ok (.getfield 35, 3) := by decide +kernel
theorem dX0_turnJoined_63 : decode cX0_turnJoined 63 = .ok (.iload_n 1, 1) := by decide +kernel
theorem dX0_turnJoined_64 : decode cX0_turnJoined 64 = .ok (.baload, 1) := by decide +kernel
theorem dX0_turnJoined_65 : decode cX0_turnJoined 65 = .ok (.ireturn, 1) := by decide +kernel
set_option maxRecDepth 20000 in
theorem ggX0_reword_X0_count : GoodIn wsX0_reword wsX0_count := goodIn_r _ [10, 1, 4, 2, 11, 12, 13, 14, 9, 15, 16, 17, 18, 19, 20, 21, 22, 23, 24, 25, 26, 27, 28, 29, 71, 72, 73, 74, 75, 76, 77, 78, 79, 80, 81, 82, 83, 84, 85, 86, 87, 88] (by decide +kernel) (by decide +kernel)
set_option maxRecDepth 20000 in
theorem gX0_reword_X0_count : GoodIn wsX0_reword (wsV RX0 105 RX0 yX0_count wsX0_count) := goodIn_app (goodIn_of _ (by decide +kernel)) ggX0_reword_X0_count
set_option maxRecDepth 20000 in
theorem ggX0_reword_X0_noteCheapestWording : GoodIn wsX0_reword wsX0_noteCheapestWording := goodIn_r _ [33, 34, 1, 35, 36, 37, 38, 39, 9, 40, 11, 41, 42, 43, 44, 45, 2, 46, 47, 48, 49, 50, 51, 52, 53, 54, 16, 17, 18, 19, 20, 55, 56, 57, 58, 59, 12, 13, 14, 15, 60, 61, 62, 63, 64, 65, 28, 66, 67, 68, 69, 70, 3, 5, 71, 72, 73, 74, 75, 76, 77, 78, 79, 80, 81, 82, 83, 84, 85, 86, 87, 88] (by decide +kernel) (by decide +kernel)
set_option maxRecDepth 20000 in
theorem gX0_reword_X0_noteCheapestWording : GoodIn wsX0_reword (wsV RX0 109 RX0 yX0_noteCheapestWording wsX0_noteCheapestWording) := goodIn_app (goodIn_of _ (by decide +kernel)) ggX0_reword_X0_noteCheapestWording
theorem dX0_reword_0 : decode cX0_reword 0 = .ok (.aload_n 0, 1) := by decide +kernel
theorem dX0_reword_1 : decode cX0_reword 1 = .ok (.invokevirtual 105, 3) := by decide +kernel
theorem dX0_reword_4 : decode cX0_reword 4 = .ok (.istore_n 1, 1) := by decide +kernel
theorem dX0_reword_5 : decode cX0_reword 5 = .ok (.aload_n 0, 1) := by decide +kernel
theorem dX0_reword_6 : decode cX0_reword 6 = .ok (.invokevirtual 109, 3) := by decide +kernel
theorem dX0_reword_9 : decode cX0_reword 9 = .ok (.iconst 0, 1) := by decide +kernel
theorem dX0_reword_10 : decode cX0_reword 10 = .ok (.istore_n 2, 1) := by decide +kernel
theorem dX0_reword_11 : decode cX0_reword 11 = .ok (.iload_n 2, 1) := by decide +kernel
theorem dX0_reword_12 : decode cX0_reword 12 = .ok (.aload_n 0, 1) := by decide +kernel
theorem dX0_reword_13 : decode cX0_reword 13 = .ok (.getfield 39, 3) := by decide +kernel
theorem dX0_reword_16 : decode cX0_reword 16 = .ok (.if_icmp .ge 33, 3) := by decide +kernel
theorem dX0_reword_19 : decode cX0_reword 19 = .ok (.aload_n 0, 1) := by decide +kernel
theorem dX0_reword_20 : decode cX0_reword 20 = .ok (.getfield 32, 3) := by decide +kernel
theorem dX0_reword_23 : decode cX0_reword 23 = .ok (.iload_n 2, 1) := by decide +kernel
theorem dX0_reword_24 : decode cX0_reword 24 = .ok (.aload_n 0, 1) := by decide +kernel
theorem dX0_reword_25 : decode cX0_reword 25 = .ok (.getfield 60, 3) := by decide +kernel
theorem dX0_reword_28 : decode cX0_reword 28 = .ok (.iload_n 2, 1) := by decide +kernel
theorem dX0_reword_29 : decode cX0_reword 29 = .ok (.iaload, 1) := by decide +kernel
theorem dX0_reword_30 : decode cX0_reword 30 = .ok (.iastore, 1) := by decide +kernel
theorem dX0_reword_31 : decode cX0_reword 31 = .ok (.aload_n 0, 1) := by decide +kernel
theorem dX0_reword_32 : decode cX0_reword 32 = .ok (.getfield 35, 3) := by decide +kernel
theorem dX0_reword_35 : decode cX0_reword 35 = .ok (.iload_n 2, 1) := by decide +kernel
theorem dX0_reword_36 : decode cX0_reword 36 = .ok (.aload_n 0, 1) := by decide +kernel
theorem dX0_reword_37 : decode cX0_reword 37 = .ok (.getfield 63, 3) := by decide +kernel
theorem dX0_reword_40 : decode cX0_reword 40 = .ok (.iload_n 2, 1) := by decide +kernel
theorem dX0_reword_41 : decode cX0_reword 41 = .ok (.baload, 1) := by decide +kernel
theorem dX0_reword_42 : decode cX0_reword 42 = .ok (.bastore, 1) := by decide +kernel
theorem dX0_reword_43 : decode cX0_reword 43 = .ok (.iinc 2 1, 3) := by decide +kernel
theorem dX0_reword_46 : decode cX0_reword 46 = .ok (.goto (-35), 3) := by decide +kernel
theorem dX0_reword_49 : decode cX0_reword 49 = .ok (.iload_n 1, 1) := by decide +kernel
theorem dX0_reword_50 : decode cX0_reword 50 = .ok (.aload_n 0, 1) := by decide +kernel
theorem dX0_reword_51 : decode cX0_reword 51 = .ok (.invokevirtual 105, 3) := by decide +kernel
theorem dX0_reword_54 : decode cX0_reword 54 = .ok (.isub, 1) := by decide +kernel
theorem dX0_reword_55 : decode cX0_reword 55 = .ok (.ireturn, 1) := by decide +kernel
set_option maxRecDepth 20000 in
theorem ggX0_send_X0_priceTo : GoodIn wsX0_send wsX0_priceTo := goodIn_ca (goodIn_r _ [10, 11, 12, 13, 14, 15, 9, 16, 17, 18, 19, 20, 21, 3, 22, 23, 24, 25, 26, 27, 28, 29, 30, 31, 32, 33, 34, 35, 36, 37, 38, 39, 40, 41, 42, 43, 44, 45, 46, 47, 48, 49, 50, 51, 52, 53, 54, 55, 56, 57, 58, 59, 60] (by decide +kernel) (by decide +kernel)) (goodIn_sub (fun _ h => List.mem_cons_of_mem _ (List.mem_append_right _ h)) (by decide +kernel))
set_option maxRecDepth 20000 in
theorem gX0_send_X0_priceTo : GoodIn wsX0_send (wsV RX0 112 RX0 yX0_priceTo wsX0_priceTo) := goodIn_app (goodIn_of _ (by decide +kernel)) ggX0_send_X0_priceTo
theorem dX0_send_0 : decode cX0_send 0 = .ok (.aload_n 0, 1) := by decide +kernel
theorem dX0_send_1 : decode cX0_send 1 = .ok (.iload_n 1, 1) := by decide +kernel
theorem dX0_send_2 : decode cX0_send 2 = .ok (.invokevirtual 112, 3) := by decide +kernel
theorem dX0_send_5 : decode cX0_send 5 = .ok (.istore_n 2, 1) := by decide +kernel
theorem dX0_send_6 : decode cX0_send 6 = .ok (.aload_n 0, 1) := by decide +kernel
theorem dX0_send_7 : decode cX0_send 7 = .ok (.getfield 39, 3) := by decide +kernel
theorem dX0_send_10 : decode cX0_send 10 = .ok (.ifCond .ne 13, 3) := by decide +kernel
theorem dX0_send_13 : decode cX0_send 13 = .ok (.new 73, 3) := by decide +kernel
theorem dX0_send_16 : decode cX0_send 16 = .ok (.dup, 1) := by decide +kernel
theorem dX0_send_17 : decode cX0_send 17 = .ok (.ldc 116, 2) := by decide +kernel
theorem dX0_send_19 : decode cX0_send 19 = .ok (.invokespecial 77, 3) := by decide +kernel
theorem dX0_send_22 : decode cX0_send 22 = .ok (.athrow, 1) := by decide +kernel
theorem dX0_send_23 : decode cX0_send 23 = .ok (.aload_n 0, 1) := by decide +kernel
theorem dX0_send_24 : decode cX0_send 24 = .ok (.dup, 1) := by decide +kernel
theorem dX0_send_25 : decode cX0_send 25 = .ok (.getfield 42, 3) := by decide +kernel
theorem dX0_send_28 : decode cX0_send 28 = .ok (.iconst 1, 1) := by decide +kernel
theorem dX0_send_29 : decode cX0_send 29 = .ok (.iadd, 1) := by decide +kernel
theorem dX0_send_30 : decode cX0_send 30 = .ok (.putfield 42, 3) := by decide +kernel
theorem dX0_send_33 : decode cX0_send 33 = .ok (.aload_n 0, 1) := by decide +kernel
theorem dX0_send_34 : decode cX0_send 34 = .ok (.dup, 1) := by decide +kernel
theorem dX0_send_35 : decode cX0_send 35 = .ok (.getfield 45, 3) := by decide +kernel
theorem dX0_send_38 : decode cX0_send 38 = .ok (.iload_n 2, 1) := by decide +kernel
theorem dX0_send_39 : decode cX0_send 39 = .ok (.iadd, 1) := by decide +kernel
theorem dX0_send_40 : decode cX0_send 40 = .ok (.putfield 45, 3) := by decide +kernel
theorem dX0_send_43 : decode cX0_send 43 = .ok (.aload_n 0, 1) := by decide +kernel
theorem dX0_send_44 : decode cX0_send 44 = .ok (.iconst 0, 1) := by decide +kernel
theorem dX0_send_45 : decode cX0_send 45 = .ok (.putfield 39, 3) := by decide +kernel
theorem dX0_send_48 : decode cX0_send 48 = .ok (.iload_n 2, 1) := by decide +kernel
theorem dX0_send_49 : decode cX0_send 49 = .ok (.ireturn, 1) := by decide +kernel
theorem dX0_words_0 : decode cX0_words 0 = .ok (.aload_n 0, 1) := by decide +kernel
theorem dX0_words_1 : decode cX0_words 1 = .ok (.getfield 19, 3) := by decide +kernel
theorem dX0_words_4 : decode cX0_words 4 = .ok (.ireturn, 1) := by decide +kernel
set_option maxRecDepth 20000 in
theorem ggX0_lettersOf_X0_needWord : GoodIn wsX0_lettersOf wsX0_needWord := goodIn_ca (goodIn_r _ [6, 7, 8, 9, 10, 11, 12, 13, 14, 15, 16, 17, 18, 19, 20, 21, 22, 23, 24, 25, 26, 27] (by decide +kernel) (by decide +kernel)) (goodIn_sub (fun _ h => List.mem_cons_of_mem _ (List.mem_append_right _ h)) (by decide +kernel))
set_option maxRecDepth 20000 in
theorem gX0_lettersOf_X0_needWord : GoodIn wsX0_lettersOf (wsV RX0 78 RX0 yX0_needWord wsX0_needWord) := goodIn_app (goodIn_of _ (by decide +kernel)) ggX0_lettersOf_X0_needWord
theorem dX0_lettersOf_0 : decode cX0_lettersOf 0 = .ok (.aload_n 0, 1) := by decide +kernel
theorem dX0_lettersOf_1 : decode cX0_lettersOf 1 = .ok (.iload_n 1, 1) := by decide +kernel
theorem dX0_lettersOf_2 : decode cX0_lettersOf 2 = .ok (.invokevirtual 78, 3) := by decide +kernel
theorem dX0_lettersOf_5 : decode cX0_lettersOf 5 = .ok (.aload_n 0, 1) := by decide +kernel
theorem dX0_lettersOf_6 : decode cX0_lettersOf 6 = .ok (.getfield 9, 3) := by decide +kernel
theorem dX0_lettersOf_9 : decode cX0_lettersOf 9 = .ok (.iload_n 1, 1) := by decide +kernel
theorem dX0_lettersOf_10 : decode cX0_lettersOf 10 = .ok (.iaload, 1) := by decide +kernel
theorem dX0_lettersOf_11 : decode cX0_lettersOf 11 = .ok (.ireturn, 1) := by decide +kernel
set_option maxRecDepth 20000 in
theorem ggX0_countOf_X0_needWord : GoodIn wsX0_countOf wsX0_needWord := goodIn_ca (goodIn_r _ [6, 7, 8, 9, 15, 16, 17, 18, 19, 20, 21, 22, 23, 24, 25, 26, 27, 28, 29, 30, 31, 32] (by decide +kernel) (by decide +kernel)) (goodIn_sub (fun _ h => List.mem_cons_of_mem _ (List.mem_append_right _ h)) (by decide +kernel))
set_option maxRecDepth 20000 in
theorem gX0_countOf_X0_needWord : GoodIn wsX0_countOf (wsV RX0 78 RX0 yX0_needWord wsX0_needWord) := goodIn_app (goodIn_of _ (by decide +kernel)) ggX0_countOf_X0_needWord
set_option maxRecDepth 20000 in
theorem ggX0_countOf_X0_countOfLetters : GoodIn wsX0_countOf wsX0_countOfLetters := goodIn_r _ [13, 14, 15, 16, 17, 18, 19, 20, 21, 22, 23, 24, 25, 26, 27, 28, 29, 30, 31, 32] (by decide +kernel) (by decide +kernel)
set_option maxRecDepth 20000 in
theorem gX0_countOf_X0_countOfLetters : GoodIn wsX0_countOf (wsV RX0 118 RX0 yX0_countOfLetters wsX0_countOfLetters) := goodIn_app (goodIn_of _ (by decide +kernel)) ggX0_countOf_X0_countOfLetters
theorem dX0_countOf_0 : decode cX0_countOf 0 = .ok (.aload_n 0, 1) := by decide +kernel
theorem dX0_countOf_1 : decode cX0_countOf 1 = .ok (.iload_n 1, 1) := by decide +kernel
theorem dX0_countOf_2 : decode cX0_countOf 2 = .ok (.invokevirtual 78, 3) := by decide +kernel
theorem dX0_countOf_5 : decode cX0_countOf 5 = .ok (.aload_n 0, 1) := by decide +kernel
theorem dX0_countOf_6 : decode cX0_countOf 6 = .ok (.aload_n 0, 1) := by decide +kernel
theorem dX0_countOf_7 : decode cX0_countOf 7 = .ok (.getfield 9, 3) := by decide +kernel
theorem dX0_countOf_10 : decode cX0_countOf 10 = .ok (.iload_n 1, 1) := by decide +kernel
theorem dX0_countOf_11 : decode cX0_countOf 11 = .ok (.iaload, 1) := by decide +kernel
theorem dX0_countOf_12 : decode cX0_countOf 12 = .ok (.invokevirtual 118, 3) := by decide +kernel
theorem dX0_countOf_15 : decode cX0_countOf 15 = .ok (.ireturn, 1) := by decide +kernel
set_option maxRecDepth 20000 in
theorem ggX0_mayStandFor_X0_needWord : GoodIn wsX0_mayStandFor wsX0_needWord := goodIn_ca (goodIn_r _ [6, 7, 8, 9, 13, 14, 15, 16, 17, 18, 19, 20, 21, 22, 23, 24, 25, 26, 27, 28, 29, 30] (by decide +kernel) (by decide +kernel)) (goodIn_sub (fun _ h => List.mem_cons_of_mem _ (List.mem_append_right _ h)) (by decide +kernel))
set_option maxRecDepth 20000 in
theorem gX0_mayStandFor_X0_needWord : GoodIn wsX0_mayStandFor (wsV RX0 78 RX0 yX0_needWord wsX0_needWord) := goodIn_app (goodIn_of _ (by decide +kernel)) ggX0_mayStandFor_X0_needWord
set_option maxRecDepth 20000 in
theorem ggX0_mayStandFor_X0_hasBit : GoodIn wsX0_mayStandFor wsX0_hasBit := goodIn_r _ [12] (by decide +kernel) (by decide +kernel)
set_option maxRecDepth 20000 in
theorem gX0_mayStandFor_X0_hasBit : GoodIn wsX0_mayStandFor (va_wsS RX0 84 yX0_hasBit wsX0_hasBit) := goodIn_app (goodIn_of _ (by decide +kernel)) ggX0_mayStandFor_X0_hasBit
theorem dX0_mayStandFor_0 : decode cX0_mayStandFor 0 = .ok (.aload_n 0, 1) := by decide +kernel
theorem dX0_mayStandFor_1 : decode cX0_mayStandFor 1 = .ok (.iload_n 1, 1) := by decide +kernel
theorem dX0_mayStandFor_2 : decode cX0_mayStandFor 2 = .ok (.invokevirtual 78, 3) := by decide +kernel
theorem dX0_mayStandFor_5 : decode cX0_mayStandFor 5 = .ok (.aload_n 0, 1) := by decide +kernel
theorem dX0_mayStandFor_6 : decode cX0_mayStandFor 6 = .ok (.iload_n 2, 1) := by decide +kernel
theorem dX0_mayStandFor_7 : decode cX0_mayStandFor 7 = .ok (.invokevirtual 78, 3) := by decide +kernel
theorem dX0_mayStandFor_10 : decode cX0_mayStandFor 10 = .ok (.aload_n 0, 1) := by decide +kernel
theorem dX0_mayStandFor_11 : decode cX0_mayStandFor 11 = .ok (.getfield 13, 3) := by decide +kernel
theorem dX0_mayStandFor_14 : decode cX0_mayStandFor 14 = .ok (.iload_n 1, 1) := by decide +kernel
theorem dX0_mayStandFor_15 : decode cX0_mayStandFor 15 = .ok (.iaload, 1) := by decide +kernel
theorem dX0_mayStandFor_16 : decode cX0_mayStandFor 16 = .ok (.iload_n 2, 1) := by decide +kernel
theorem dX0_mayStandFor_17 : decode cX0_mayStandFor 17 = .ok (.invokestatic 84, 3) := by decide +kernel
theorem dX0_mayStandFor_20 : decode cX0_mayStandFor 20 = .ok (.ireturn, 1) := by decide +kernel
set_option maxRecDepth 20000 in
theorem ggX0_mayJoin_X0_needWord : GoodIn wsX0_mayJoin wsX0_needWord := goodIn_ca (goodIn_r _ [6, 7, 8, 9, 13, 14, 15, 16, 17, 18, 19, 20, 21, 22, 23, 24, 25, 26, 27, 28, 29, 30] (by decide +kernel) (by decide +kernel)) (goodIn_sub (fun _ h => List.mem_cons_of_mem _ (List.mem_append_right _ h)) (by decide +kernel))
set_option maxRecDepth 20000 in
theorem gX0_mayJoin_X0_needWord : GoodIn wsX0_mayJoin (wsV RX0 78 RX0 yX0_needWord wsX0_needWord) := goodIn_app (goodIn_of _ (by decide +kernel)) ggX0_mayJoin_X0_needWord
set_option maxRecDepth 20000 in
theorem ggX0_mayJoin_X0_hasBit : GoodIn wsX0_mayJoin wsX0_hasBit := goodIn_r _ [12] (by decide +kernel) (by decide +kernel)
set_option maxRecDepth 20000 in
theorem gX0_mayJoin_X0_hasBit : GoodIn wsX0_mayJoin (va_wsS RX0 84 yX0_hasBit wsX0_hasBit) := goodIn_app (goodIn_of _ (by decide +kernel)) ggX0_mayJoin_X0_hasBit
theorem dX0_mayJoin_0 : decode cX0_mayJoin 0 = .ok (.aload_n 0, 1) := by decide +kernel
theorem dX0_mayJoin_1 : decode cX0_mayJoin 1 = .ok (.iload_n 1, 1) := by decide +kernel
theorem dX0_mayJoin_2 : decode cX0_mayJoin 2 = .ok (.invokevirtual 78, 3) := by decide +kernel
theorem dX0_mayJoin_5 : decode cX0_mayJoin 5 = .ok (.aload_n 0, 1) := by decide +kernel
theorem dX0_mayJoin_6 : decode cX0_mayJoin 6 = .ok (.iload_n 2, 1) := by decide +kernel
theorem dX0_mayJoin_7 : decode cX0_mayJoin 7 = .ok (.invokevirtual 78, 3) := by decide +kernel
theorem dX0_mayJoin_10 : decode cX0_mayJoin 10 = .ok (.aload_n 0, 1) := by decide +kernel
theorem dX0_mayJoin_11 : decode cX0_mayJoin 11 = .ok (.getfield 16, 3) := by decide +kernel
theorem dX0_mayJoin_14 : decode cX0_mayJoin 14 = .ok (.iload_n 1, 1) := by decide +kernel
theorem dX0_mayJoin_15 : decode cX0_mayJoin 15 = .ok (.iaload, 1) := by decide +kernel
theorem dX0_mayJoin_16 : decode cX0_mayJoin 16 = .ok (.iload_n 2, 1) := by decide +kernel
theorem dX0_mayJoin_17 : decode cX0_mayJoin 17 = .ok (.invokestatic 84, 3) := by decide +kernel
theorem dX0_mayJoin_20 : decode cX0_mayJoin 20 = .ok (.ireturn, 1) := by decide +kernel
set_option maxRecDepth 20000 in
theorem ggX0_standInsOf_X0_needWord : GoodIn wsX0_standInsOf wsX0_needWord := goodIn_ca (goodIn_r _ [6, 7, 8, 9, 17, 18, 19, 20, 21, 22, 23, 24, 25, 26, 27, 28, 29, 30, 31, 32, 33, 34] (by decide +kernel) (by decide +kernel)) (goodIn_sub (fun _ h => List.mem_cons_of_mem _ (List.mem_append_right _ h)) (by decide +kernel))
set_option maxRecDepth 20000 in
theorem gX0_standInsOf_X0_needWord : GoodIn wsX0_standInsOf (wsV RX0 78 RX0 yX0_needWord wsX0_needWord) := goodIn_app (goodIn_of _ (by decide +kernel)) ggX0_standInsOf_X0_needWord
set_option maxRecDepth 20000 in
theorem ggX0_standInsOf_J6_bitCount_0f7a4 : GoodIn wsX0_standInsOf wsJ6_bitCount_0f7a4 := goodIn_r _ [13, 14, 15, 16] (by decide +kernel) (by decide +kernel)
set_option maxRecDepth 20000 in
theorem gX0_standInsOf_J6_bitCount_0f7a4 : GoodIn wsX0_standInsOf (va_wsS RX0 121 yJ6_bitCount_0f7a4 wsJ6_bitCount_0f7a4) := goodIn_app (goodIn_of _ (by decide +kernel)) ggX0_standInsOf_J6_bitCount_0f7a4
theorem dX0_standInsOf_0 : decode cX0_standInsOf 0 = .ok (.aload_n 0, 1) := by decide +kernel
theorem dX0_standInsOf_1 : decode cX0_standInsOf 1 = .ok (.iload_n 1, 1) := by decide +kernel
theorem dX0_standInsOf_2 : decode cX0_standInsOf 2 = .ok (.invokevirtual 78, 3) := by decide +kernel
theorem dX0_standInsOf_5 : decode cX0_standInsOf 5 = .ok (.aload_n 0, 1) := by decide +kernel
theorem dX0_standInsOf_6 : decode cX0_standInsOf 6 = .ok (.getfield 13, 3) := by decide +kernel
theorem dX0_standInsOf_9 : decode cX0_standInsOf 9 = .ok (.iload_n 1, 1) := by decide +kernel
theorem dX0_standInsOf_10 : decode cX0_standInsOf 10 = .ok (.iaload, 1) := by decide +kernel
theorem dX0_standInsOf_11 : decode cX0_standInsOf 11 = .ok (.invokestatic 121, 3) := by decide +kernel
theorem dX0_standInsOf_14 : decode cX0_standInsOf 14 = .ok (.ireturn, 1) := by decide +kernel
theorem dX0_limit_0 : decode cX0_limit 0 = .ok (.aload_n 0, 1) := by decide +kernel
theorem dX0_limit_1 : decode cX0_limit 1 = .ok (.getfield 23, 3) := by decide +kernel
theorem dX0_limit_4 : decode cX0_limit 4 = .ok (.ireturn, 1) := by decide +kernel
theorem dX0_leastCount_0 : decode cX0_leastCount 0 = .ok (.aload_n 0, 1) := by decide +kernel
theorem dX0_leastCount_1 : decode cX0_leastCount 1 = .ok (.getfield 26, 3) := by decide +kernel
theorem dX0_leastCount_4 : decode cX0_leastCount 4 = .ok (.ireturn, 1) := by decide +kernel
theorem dX0_coins_0 : decode cX0_coins 0 = .ok (.aload_n 0, 1) := by decide +kernel
theorem dX0_coins_1 : decode cX0_coins 1 = .ok (.getfield 29, 3) := by decide +kernel
theorem dX0_coins_4 : decode cX0_coins 4 = .ok (.ireturn, 1) := by decide +kernel
theorem dX0_length_0 : decode cX0_length 0 = .ok (.aload_n 0, 1) := by decide +kernel
theorem dX0_length_1 : decode cX0_length 1 = .ok (.getfield 39, 3) := by decide +kernel
theorem dX0_length_4 : decode cX0_length 4 = .ok (.ireturn, 1) := by decide +kernel
set_option maxRecDepth 20000 in
theorem ggX0_wordAt_X0_needPlace : GoodIn wsX0_wordAt wsX0_needPlace := goodIn_ca (goodIn_r _ [6, 7, 8, 9, 10, 11, 12, 13, 14, 15, 16, 17, 18, 19, 20, 21, 22, 23, 24, 25, 26, 27] (by decide +kernel) (by decide +kernel)) (goodIn_sub (fun _ h => List.mem_cons_of_mem _ (List.mem_append_right _ h)) (by decide +kernel))
set_option maxRecDepth 20000 in
theorem gX0_wordAt_X0_needPlace : GoodIn wsX0_wordAt (wsV RX0 96 RX0 yX0_needPlace wsX0_needPlace) := goodIn_app (goodIn_of _ (by decide +kernel)) ggX0_wordAt_X0_needPlace
theorem dX0_wordAt_0 : decode cX0_wordAt 0 = .ok (.aload_n 0, 1) := by decide +kernel
theorem dX0_wordAt_1 : decode cX0_wordAt 1 = .ok (.iload_n 1, 1) := by decide +kernel
theorem dX0_wordAt_2 : decode cX0_wordAt 2 = .ok (.invokevirtual 96, 3) := by decide +kernel
theorem dX0_wordAt_5 : decode cX0_wordAt 5 = .ok (.aload_n 0, 1) := by decide +kernel
theorem dX0_wordAt_6 : decode cX0_wordAt 6 = .ok (.getfield 32, 3) := by decide +kernel
theorem dX0_wordAt_9 : decode cX0_wordAt 9 = .ok (.iload_n 1, 1) := by decide +kernel
theorem dX0_wordAt_10 : decode cX0_wordAt 10 = .ok (.iaload, 1) := by decide +kernel
theorem dX0_wordAt_11 : decode cX0_wordAt 11 = .ok (.ireturn, 1) := by decide +kernel
set_option maxRecDepth 20000 in
theorem ggX0_isJoined_X0_needPlace : GoodIn wsX0_isJoined wsX0_needPlace := goodIn_ca (goodIn_r _ [6, 7, 8, 9, 10, 11, 12, 13, 14, 15, 16, 17, 18, 19, 20, 21, 22, 23, 24, 25, 26, 27] (by decide +kernel) (by decide +kernel)) (goodIn_sub (fun _ h => List.mem_cons_of_mem _ (List.mem_append_right _ h)) (by decide +kernel))
set_option maxRecDepth 20000 in
theorem gX0_isJoined_X0_needPlace : GoodIn wsX0_isJoined (wsV RX0 96 RX0 yX0_needPlace wsX0_needPlace) := goodIn_app (goodIn_of _ (by decide +kernel)) ggX0_isJoined_X0_needPlace
theorem dX0_isJoined_0 : decode cX0_isJoined 0 = .ok (.aload_n 0, 1) := by decide +kernel
theorem dX0_isJoined_1 : decode cX0_isJoined 1 = .ok (.iload_n 1, 1) := by decide +kernel
theorem dX0_isJoined_2 : decode cX0_isJoined 2 = .ok (.invokevirtual 96, 3) := by decide +kernel
theorem dX0_isJoined_5 : decode cX0_isJoined 5 = .ok (.aload_n 0, 1) := by decide +kernel
theorem dX0_isJoined_6 : decode cX0_isJoined 6 = .ok (.getfield 35, 3) := by decide +kernel
theorem dX0_isJoined_9 : decode cX0_isJoined 9 = .ok (.iload_n 1, 1) := by decide +kernel
theorem dX0_isJoined_10 : decode cX0_isJoined 10 = .ok (.baload, 1) := by decide +kernel
theorem dX0_isJoined_11 : decode cX0_isJoined 11 = .ok (.ireturn, 1) := by decide +kernel
set_option maxRecDepth 20000 in
theorem ggX0_count_X0_countOfPair : GoodIn wsX0_count wsX0_countOfPair := goodIn_r _ [9, 4, 10, 11, 12, 8, 13, 14, 24, 25, 26, 27, 28, 29, 30, 31, 32, 33, 34, 35, 36, 37, 38, 39, 40, 41] (by decide +kernel) (by decide +kernel)
set_option maxRecDepth 20000 in
theorem gX0_count_X0_countOfPair : GoodIn wsX0_count (wsV RX0 126 RX0 yX0_countOfPair wsX0_countOfPair) := goodIn_app (goodIn_of _ (by decide +kernel)) ggX0_count_X0_countOfPair
set_option maxRecDepth 20000 in
theorem ggX0_count_X0_countOfLetters : GoodIn wsX0_count wsX0_countOfLetters := goodIn_r _ [13, 14, 24, 25, 26, 27, 28, 29, 30, 31, 32, 33, 34, 35, 36, 37, 38, 39, 40, 41] (by decide +kernel) (by decide +kernel)
set_option maxRecDepth 20000 in
theorem gX0_count_X0_countOfLetters : GoodIn wsX0_count (wsV RX0 118 RX0 yX0_countOfLetters wsX0_countOfLetters) := goodIn_app (goodIn_of _ (by decide +kernel)) ggX0_count_X0_countOfLetters
set_option maxRecDepth 20000 in
theorem ggX0_count_X0_atLeastTheLeastCount : GoodIn wsX0_count wsX0_atLeastTheLeastCount := goodIn_r _ [18, 1, 19, 20, 21, 22, 23, 24, 25, 26, 27, 28, 29, 30, 31, 32, 33, 34, 35, 36, 37, 38, 39, 40, 41] (by decide +kernel) (by decide +kernel)
set_option maxRecDepth 20000 in
theorem gX0_count_X0_atLeastTheLeastCount : GoodIn wsX0_count (wsV RX0 130 RX0 yX0_atLeastTheLeastCount wsX0_atLeastTheLeastCount) := goodIn_app (goodIn_of _ (by decide +kernel)) ggX0_count_X0_atLeastTheLeastCount
theorem dX0_count_0 : decode cX0_count 0 = .ok (.iconst 0, 1) := by decide +kernel
theorem dX0_count_1 : decode cX0_count 1 = .ok (.istore_n 1, 1) := by decide +kernel
theorem dX0_count_2 : decode cX0_count 2 = .ok (.iconst 0, 1) := by decide +kernel
theorem dX0_count_3 : decode cX0_count 3 = .ok (.istore_n 2, 1) := by decide +kernel
theorem dX0_count_4 : decode cX0_count 4 = .ok (.iload_n 2, 1) := by decide +kernel
theorem dX0_count_5 : decode cX0_count 5 = .ok (.aload_n 0, 1) := by decide +kernel
theorem dX0_count_6 : decode cX0_count 6 = .ok (.getfield 39, 3) := by decide +kernel
theorem dX0_count_9 : decode cX0_count 9 = .ok (.if_icmp .ge 73, 3) := by decide +kernel
theorem dX0_count_12 : decode cX0_count 12 = .ok (.aload_n 0, 1) := by decide +kernel
theorem dX0_count_13 : decode cX0_count 13 = .ok (.getfield 35, 3) := by decide +kernel
theorem dX0_count_16 : decode cX0_count 16 = .ok (.iload_n 2, 1) := by decide +kernel
theorem dX0_count_17 : decode cX0_count 17 = .ok (.baload, 1) := by decide +kernel
theorem dX0_count_18 : decode cX0_count 18 = .ok (.ifCond .eq 40, 3) := by decide +kernel
theorem dX0_count_21 : decode cX0_count 21 = .ok (.iload_n 2, 1) := by decide +kernel
theorem dX0_count_22 : decode cX0_count 22 = .ok (.iconst 1, 1) := by decide +kernel
theorem dX0_count_23 : decode cX0_count 23 = .ok (.iadd, 1) := by decide +kernel
theorem dX0_count_24 : decode cX0_count 24 = .ok (.aload_n 0, 1) := by decide +kernel
theorem dX0_count_25 : decode cX0_count 25 = .ok (.getfield 39, 3) := by decide +kernel
theorem dX0_count_28 : decode cX0_count 28 = .ok (.if_icmp .ge 30, 3) := by decide +kernel
theorem dX0_count_31 : decode cX0_count 31 = .ok (.iload_n 1, 1) := by decide +kernel
theorem dX0_count_32 : decode cX0_count 32 = .ok (.aload_n 0, 1) := by decide +kernel
theorem dX0_count_33 : decode cX0_count 33 = .ok (.aload_n 0, 1) := by decide +kernel
theorem dX0_count_34 : decode cX0_count 34 = .ok (.getfield 32, 3) := by decide +kernel
theorem dX0_count_37 : decode cX0_count 37 = .ok (.iload_n 2, 1) := by decide +kernel
theorem dX0_count_38 : decode cX0_count 38 = .ok (.iaload, 1) := by decide +kernel
theorem dX0_count_39 : decode cX0_count 39 = .ok (.aload_n 0, 1) := by decide +kernel
theorem dX0_count_40 : decode cX0_count 40 = .ok (.getfield 32, 3) := by decide +kernel
theorem dX0_count_43 : decode cX0_count 43 = .ok (.iload_n 2, 1) := by decide +kernel
theorem dX0_count_44 : decode cX0_count 44 = .ok (.iconst 1, 1) := by decide +kernel
theorem dX0_count_45 : decode cX0_count 45 = .ok (.iadd, 1) := by decide +kernel
theorem dX0_count_46 : decode cX0_count 46 = .ok (.iaload, 1) := by decide +kernel
theorem dX0_count_47 : decode cX0_count 47 = .ok (.invokevirtual 126, 3) := by decide +kernel
theorem dX0_count_50 : decode cX0_count 50 = .ok (.iadd, 1) := by decide +kernel
theorem dX0_count_51 : decode cX0_count 51 = .ok (.istore_n 1, 1) := by decide +kernel
theorem dX0_count_52 : decode cX0_count 52 = .ok (.iinc 2 2, 3) := by decide +kernel
theorem dX0_count_55 : decode cX0_count 55 = .ok (.goto (-51), 3) := by decide +kernel
theorem dX0_count_58 : decode cX0_count 58 = .ok (.iload_n 1, 1) := by decide +kernel
theorem dX0_count_59 : decode cX0_count 59 = .ok (.aload_n 0, 1) := by decide +kernel
theorem dX0_count_60 : decode cX0_count 60 = .ok (.aload_n 0, 1) := by decide +kernel
theorem dX0_count_61 : decode cX0_count 61 = .ok (.getfield 9, 3) := by decide +kernel
theorem dX0_count_64 : decode cX0_count 64 = .ok (.aload_n 0, 1) := by decide +kernel
theorem dX0_count_65 : decode cX0_count 65 = .ok (.getfield 32, 3) := by decide +kernel
theorem dX0_count_68 : decode cX0_count 68 = .ok (.iload_n 2, 1) := by decide +kernel
theorem dX0_count_69 : decode cX0_count 69 = .ok (.iaload, 1) := by decide +kernel
theorem dX0_count_70 : decode cX0_count 70 = .ok (.iaload, 1) := by decide +kernel
theorem dX0_count_71 : decode cX0_count 71 = .ok (.invokevirtual 118, 3) := by decide +kernel
theorem dX0_count_74 : decode cX0_count 74 = .ok (.iadd, 1) := by decide +kernel
theorem dX0_count_75 : decode cX0_count 75 = .ok (.istore_n 1, 1) := by decide +kernel
theorem dX0_count_76 : decode cX0_count 76 = .ok (.iinc 2 1, 3) := by decide +kernel
theorem dX0_count_79 : decode cX0_count 79 = .ok (.goto (-75), 3) := by decide +kernel
theorem dX0_count_82 : decode cX0_count 82 = .ok (.aload_n 0, 1) := by decide +kernel
theorem dX0_count_83 : decode cX0_count 83 = .ok (.iload_n 1, 1) := by decide +kernel
theorem dX0_count_84 : decode cX0_count 84 = .ok (.invokevirtual 130, 3) := by decide +kernel
theorem dX0_count_87 : decode cX0_count 87 = .ok (.ireturn, 1) := by decide +kernel
set_option maxRecDepth 20000 in
theorem ggX0_price_X0_count : GoodIn wsX0_price wsX0_count := goodIn_r _ [6, 7, 8, 9, 10, 11, 12, 13, 5, 14, 15, 16, 17, 18, 19, 20, 21, 22, 23, 24, 25, 26, 27, 28, 29, 30, 31, 32, 33, 34, 35, 36, 37, 38, 39, 40, 41, 42, 43, 44, 45, 46] (by decide +kernel) (by decide +kernel)
set_option maxRecDepth 20000 in
theorem gX0_price_X0_count : GoodIn wsX0_price (wsV RX0 105 RX0 yX0_count wsX0_count) := goodIn_app (goodIn_of _ (by decide +kernel)) ggX0_price_X0_count
theorem dX0_price_0 : decode cX0_price 0 = .ok (.aload_n 0, 1) := by decide +kernel
theorem dX0_price_1 : decode cX0_price 1 = .ok (.invokevirtual 105, 3) := by decide +kernel
theorem dX0_price_4 : decode cX0_price 4 = .ok (.aload_n 0, 1) := by decide +kernel
theorem dX0_price_5 : decode cX0_price 5 = .ok (.getfield 29, 3) := by decide +kernel
theorem dX0_price_8 : decode cX0_price 8 = .ok (.imul, 1) := by decide +kernel
theorem dX0_price_9 : decode cX0_price 9 = .ok (.ireturn, 1) := by decide +kernel
set_option maxRecDepth 20000 in
theorem ggX0_priceTo_X0_price : GoodIn wsX0_priceTo wsX0_price := goodIn_r _ [7, 8, 9, 10, 11, 6, 12, 13, 14, 15, 16, 17, 18, 19, 20, 21, 22, 23, 24, 25, 26, 27, 28, 29, 30, 31, 32, 33, 34, 35, 36, 37, 38, 39, 40, 41, 42, 43, 44, 45, 46, 47, 48, 49, 50, 51, 52] (by decide +kernel) (by decide +kernel)
set_option maxRecDepth 20000 in
theorem gX0_priceTo_X0_price : GoodIn wsX0_priceTo (wsV RX0 138 RX0 yX0_price wsX0_price) := goodIn_app (goodIn_of _ (by decide +kernel)) ggX0_priceTo_X0_price
theorem dX0_priceTo_0 : decode cX0_priceTo 0 = .ok (.iload_n 1, 1) := by decide +kernel
theorem dX0_priceTo_1 : decode cX0_priceTo 1 = .ok (.ifCond .lt 8, 3) := by decide +kernel
theorem dX0_priceTo_4 : decode cX0_priceTo 4 = .ok (.iload_n 1, 1) := by decide +kernel
theorem dX0_priceTo_5 : decode cX0_priceTo 5 = .ok (.iconst 4, 1) := by decide +kernel
theorem dX0_priceTo_6 : decode cX0_priceTo 6 = .ok (.if_icmp .lt 13, 3) := by decide +kernel
theorem dX0_priceTo_9 : decode cX0_priceTo 9 = .ok (.new 133, 3) := by decide +kernel
theorem dX0_priceTo_12 : decode cX0_priceTo 12 = .ok (.dup, 1) := by decide +kernel
theorem dX0_priceTo_13 : decode cX0_priceTo 13 = .ok (.ldc 135, 2) := by decide +kernel
theorem dX0_priceTo_15 : decode cX0_priceTo 15 = .ok (.invokespecial 137, 3) := by decide +kernel
theorem dX0_priceTo_18 : decode cX0_priceTo 18 = .ok (.athrow, 1) := by decide +kernel
theorem dX0_priceTo_19 : decode cX0_priceTo 19 = .ok (.aload_n 0, 1) := by decide +kernel
theorem dX0_priceTo_20 : decode cX0_priceTo 20 = .ok (.invokevirtual 138, 3) := by decide +kernel
theorem dX0_priceTo_23 : decode cX0_priceTo 23 = .ok (.iload_n 1, 1) := by decide +kernel
theorem dX0_priceTo_24 : decode cX0_priceTo 24 = .ok (.iconst 2, 1) := by decide +kernel
theorem dX0_priceTo_25 : decode cX0_priceTo 25 = .ok (.iadd, 1) := by decide +kernel
theorem dX0_priceTo_26 : decode cX0_priceTo 26 = .ok (.imul, 1) := by decide +kernel
theorem dX0_priceTo_27 : decode cX0_priceTo 27 = .ok (.iconst 2, 1) := by decide +kernel
theorem dX0_priceTo_28 : decode cX0_priceTo 28 = .ok (.idiv, 1) := by decide +kernel
theorem dX0_priceTo_29 : decode cX0_priceTo 29 = .ok (.ireturn, 1) := by decide +kernel
theorem dX0_sent_0 : decode cX0_sent 0 = .ok (.aload_n 0, 1) := by decide +kernel
theorem dX0_sent_1 : decode cX0_sent 1 = .ok (.getfield 42, 3) := by decide +kernel
theorem dX0_sent_4 : decode cX0_sent 4 = .ok (.ireturn, 1) := by decide +kernel
theorem dX0_earned_0 : decode cX0_earned 0 = .ok (.aload_n 0, 1) := by decide +kernel
theorem dX0_earned_1 : decode cX0_earned 1 = .ok (.getfield 45, 3) := by decide +kernel
theorem dX0_earned_4 : decode cX0_earned 4 = .ok (.ireturn, 1) := by decide +kernel
set_option maxRecDepth 20000 in
theorem ggX0_cheapestCount_X0_noteLeastCounts : GoodIn wsX0_cheapestCount wsX0_noteLeastCounts := goodIn_r _ [6, 7, 8, 9, 1, 10, 11, 12, 13, 5, 14, 15, 16, 17, 18, 19, 20, 21, 22, 23, 24, 25, 26, 27, 28, 29, 30, 31, 32, 33, 34, 35, 36, 37, 38, 56, 57, 58, 59, 60, 61, 62, 63, 64, 65, 66, 67, 68, 69, 70, 71, 72, 73] (by decide +kernel) (by decide +kernel)
set_option maxRecDepth 20000 in
theorem gX0_cheapestCount_X0_noteLeastCounts : GoodIn wsX0_cheapestCount (wsV RX0 141 RX0 yX0_noteLeastCounts wsX0_noteLeastCounts) := goodIn_app (goodIn_of _ (by decide +kernel)) ggX0_cheapestCount_X0_noteLeastCounts
set_option maxRecDepth 20000 in
theorem ggX0_cheapestCount_X0_leastInAll : GoodIn wsX0_cheapestCount wsX0_leastInAll := goodIn_r _ [42, 43, 7, 8, 44, 45, 46, 47, 56, 57, 58, 59, 60, 61, 62, 63, 64, 65, 66, 67, 68, 69, 70, 71, 72, 73] (by decide +kernel) (by decide +kernel)
set_option maxRecDepth 20000 in
theorem gX0_cheapestCount_X0_leastInAll : GoodIn wsX0_cheapestCount (wsV RX0 144 RX0 yX0_leastInAll wsX0_leastInAll) := goodIn_app (goodIn_of _ (by decide +kernel)) ggX0_cheapestCount_X0_leastInAll
set_option maxRecDepth 20000 in
theorem ggX0_cheapestCount_X0_atLeastTheLeastCount : GoodIn wsX0_cheapestCount wsX0_atLeastTheLeastCount := goodIn_r _ [51, 7, 52, 53, 54, 46, 55, 56, 57, 58, 59, 60, 61, 62, 63, 64, 65, 66, 67, 68, 69, 70, 71, 72, 73] (by decide +kernel) (by decide +kernel)
set_option maxRecDepth 20000 in
theorem gX0_cheapestCount_X0_atLeastTheLeastCount : GoodIn wsX0_cheapestCount (wsV RX0 130 RX0 yX0_atLeastTheLeastCount wsX0_atLeastTheLeastCount) := goodIn_app (goodIn_of _ (by decide +kernel)) ggX0_cheapestCount_X0_atLeastTheLeastCount
theorem dX0_cheapestCount_0 : decode cX0_cheapestCount 0 = .ok (.aload_n 0, 1) := by decide +kernel
theorem dX0_cheapestCount_1 : decode cX0_cheapestCount 1 = .ok (.invokevirtual 141, 3) := by decide +kernel
theorem dX0_cheapestCount_4 : decode cX0_cheapestCount 4 = .ok (.aload_n 0, 1) := by decide +kernel
theorem dX0_cheapestCount_5 : decode cX0_cheapestCount 5 = .ok (.aload_n 0, 1) := by decide +kernel
theorem dX0_cheapestCount_6 : decode cX0_cheapestCount 6 = .ok (.aload_n 0, 1) := by decide +kernel
theorem dX0_cheapestCount_7 : decode cX0_cheapestCount 7 = .ok (.getfield 51, 3) := by decide +kernel
theorem dX0_cheapestCount_10 : decode cX0_cheapestCount 10 = .ok (.invokevirtual 144, 3) := by decide +kernel
theorem dX0_cheapestCount_13 : decode cX0_cheapestCount 13 = .ok (.invokevirtual 130, 3) := by decide +kernel
theorem dX0_cheapestCount_16 : decode cX0_cheapestCount 16 = .ok (.ireturn, 1) := by decide +kernel
set_option maxRecDepth 20000 in
theorem ggX0_isJoinedInCheapest_X0_needPlace : GoodIn wsX0_isJoinedInCheapest wsX0_needPlace := goodIn_ca (goodIn_r _ [6, 7, 8, 9, 64, 65, 66, 67, 68, 69, 70, 71, 72, 73, 74, 75, 76, 77, 78, 79, 80, 81] (by decide +kernel) (by decide +kernel)) (goodIn_sub (fun _ h => List.mem_cons_of_mem _ (List.mem_append_right _ h)) (by decide +kernel))
set_option maxRecDepth 20000 in
theorem gX0_isJoinedInCheapest_X0_needPlace : GoodIn wsX0_isJoinedInCheapest (wsV RX0 96 RX0 yX0_needPlace wsX0_needPlace) := goodIn_app (goodIn_of _ (by decide +kernel)) ggX0_isJoinedInCheapest_X0_needPlace
set_option maxRecDepth 20000 in
theorem ggX0_isJoinedInCheapest_X0_noteCheapestWording : GoodIn wsX0_isJoinedInCheapest wsX0_noteCheapestWording := goodIn_r _ [13, 14, 9, 15, 16, 17, 18, 19, 5, 20, 21, 22, 23, 24, 25, 26, 27, 28, 29, 30, 31, 32, 33, 34, 35, 36, 37, 38, 39, 40, 41, 42, 43, 44, 45, 46, 47, 48, 49, 50, 51, 52, 53, 54, 55, 56, 57, 58, 59, 60, 61, 62, 63, 1, 64, 65, 66, 67, 68, 69, 70, 71, 72, 73, 74, 75, 76, 77, 78, 79, 80, 81] (by decide +kernel) (by decide +kernel)
set_option maxRecDepth 20000 in
theorem gX0_isJoinedInCheapest_X0_noteCheapestWording : GoodIn wsX0_isJoinedInCheapest (wsV RX0 109 RX0 yX0_noteCheapestWording wsX0_noteCheapestWording) := goodIn_app (goodIn_of _ (by decide +kernel)) ggX0_isJoinedInCheapest_X0_noteCheapestWording
theorem dX0_isJoinedInCheapest_0 : decode cX0_isJoinedInCheapest 0 = .ok (.aload_n 0, 1) := by decide +kernel
theorem dX0_isJoinedInCheapest_1 : decode cX0_isJoinedInCheapest 1 = .ok (.iload_n 1, 1) := by decide +kernel
theorem dX0_isJoinedInCheapest_2 : decode cX0_isJoinedInCheapest 2 = .ok (.invokevirtual 96, 3) := by decide +kernel
theorem dX0_isJoinedInCheapest_5 : decode cX0_isJoinedInCheapest 5 = .ok (.aload_n 0, 1) := by decide +kernel
theorem dX0_isJoinedInCheapest_6 : decode cX0_isJoinedInCheapest 6 = .ok (.invokevirtual 109, 3) := by decide +kernel
theorem dX0_isJoinedInCheapest_9 : decode cX0_isJoinedInCheapest 9 = .ok (.aload_n 0, 1) := by decide +kernel
theorem dX0_isJoinedInCheapest_10 : decode cX0_isJoinedInCheapest 10 = .ok (.getfield 63, 3) := by decide +kernel
theorem dX0_isJoinedInCheapest_13 : decode cX0_isJoinedInCheapest 13 = .ok (.iload_n 1, 1) := by decide +kernel
theorem dX0_isJoinedInCheapest_14 : decode cX0_isJoinedInCheapest 14 = .ok (.baload, 1) := by decide +kernel
theorem dX0_isJoinedInCheapest_15 : decode cX0_isJoinedInCheapest 15 = .ok (.ireturn, 1) := by decide +kernel
set_option maxRecDepth 20000 in
theorem ggX0_saves_X0_price : GoodIn wsX0_saves wsX0_price := goodIn_r _ [6, 1, 7, 8, 9, 5, 10, 11, 12, 13, 14, 15, 16, 17, 18, 19, 20, 21, 22, 23, 24, 25, 26, 27, 28, 29, 30, 31, 32, 70, 71, 72, 73, 74, 75, 76, 77, 78, 79, 80, 81, 82, 83, 84, 85, 86, 87] (by decide +kernel) (by decide +kernel)
set_option maxRecDepth 20000 in
theorem gX0_saves_X0_price : GoodIn wsX0_saves (wsV RX0 138 RX0 yX0_price wsX0_price) := goodIn_app (goodIn_of _ (by decide +kernel)) ggX0_saves_X0_price
set_option maxRecDepth 20000 in
theorem ggX0_saves_X0_cheapestCount : GoodIn wsX0_saves wsX0_cheapestCount := goodIn_r _ [36, 37, 38, 39, 40, 5, 41, 11, 42, 14, 43, 44, 45, 46, 47, 13, 48, 49, 50, 51, 52, 53, 54, 55, 56, 19, 20, 21, 22, 23, 57, 58, 59, 60, 61, 15, 16, 17, 18, 62, 63, 64, 65, 66, 67, 68, 31, 69, 24, 25, 26, 27, 28, 29, 30, 32, 70, 71, 72, 73, 74, 75, 76, 77, 78, 79, 80, 81, 82, 83, 84, 85, 86, 87] (by decide +kernel) (by decide +kernel)
set_option maxRecDepth 20000 in
theorem gX0_saves_X0_cheapestCount : GoodIn wsX0_saves (wsV RX0 148 RX0 yX0_cheapestCount wsX0_cheapestCount) := goodIn_app (goodIn_of _ (by decide +kernel)) ggX0_saves_X0_cheapestCount
theorem dX0_saves_0 : decode cX0_saves 0 = .ok (.aload_n 0, 1) := by decide +kernel
theorem dX0_saves_1 : decode cX0_saves 1 = .ok (.invokevirtual 138, 3) := by decide +kernel
theorem dX0_saves_4 : decode cX0_saves 4 = .ok (.aload_n 0, 1) := by decide +kernel
theorem dX0_saves_5 : decode cX0_saves 5 = .ok (.invokevirtual 148, 3) := by decide +kernel
theorem dX0_saves_8 : decode cX0_saves 8 = .ok (.aload_n 0, 1) := by decide +kernel
theorem dX0_saves_9 : decode cX0_saves 9 = .ok (.getfield 29, 3) := by decide +kernel
theorem dX0_saves_12 : decode cX0_saves 12 = .ok (.imul, 1) := by decide +kernel
theorem dX0_saves_13 : decode cX0_saves 13 = .ok (.isub, 1) := by decide +kernel
theorem dX0_saves_14 : decode cX0_saves 14 = .ok (.ireturn, 1) := by decide +kernel
set_option maxRecDepth 20000 in
theorem ggX0_wordings_J6_bitCount_0f7a4 : GoodIn wsX0_wordings wsJ6_bitCount_0f7a4 := goodIn_r _ [12, 13, 14, 15] (by decide +kernel) (by decide +kernel)
set_option maxRecDepth 20000 in
theorem gX0_wordings_J6_bitCount_0f7a4 : GoodIn wsX0_wordings (va_wsS RX0 121 yJ6_bitCount_0f7a4 wsJ6_bitCount_0f7a4) := goodIn_app (goodIn_of _ (by decide +kernel)) ggX0_wordings_J6_bitCount_0f7a4
theorem dX0_wordings_0 : decode cX0_wordings 0 = .ok (.iconst 1, 1) := by decide +kernel
theorem dX0_wordings_1 : decode cX0_wordings 1 = .ok (.istore_n 1, 1) := by decide +kernel
theorem dX0_wordings_2 : decode cX0_wordings 2 = .ok (.iconst 0, 1) := by decide +kernel
theorem dX0_wordings_3 : decode cX0_wordings 3 = .ok (.istore_n 2, 1) := by decide +kernel
theorem dX0_wordings_4 : decode cX0_wordings 4 = .ok (.iload_n 2, 1) := by decide +kernel
theorem dX0_wordings_5 : decode cX0_wordings 5 = .ok (.aload_n 0, 1) := by decide +kernel
theorem dX0_wordings_6 : decode cX0_wordings 6 = .ok (.getfield 39, 3) := by decide +kernel
theorem dX0_wordings_9 : decode cX0_wordings 9 = .ok (.if_icmp .ge 31, 3) := by decide +kernel
theorem dX0_wordings_12 : decode cX0_wordings 12 = .ok (.iload_n 1, 1) := by decide +kernel
theorem dX0_wordings_13 : decode cX0_wordings 13 = .ok (.aload_n 0, 1) := by decide +kernel
theorem dX0_wordings_14 : decode cX0_wordings 14 = .ok (.getfield 13, 3) := by decide +kernel
theorem dX0_wordings_17 : decode cX0_wordings 17 = .ok (.aload_n 0, 1) := by decide +kernel
theorem dX0_wordings_18 : decode cX0_wordings 18 = .ok (.getfield 32, 3) := by decide +kernel
theorem dX0_wordings_21 : decode cX0_wordings 21 = .ok (.iload_n 2, 1) := by decide +kernel
theorem dX0_wordings_22 : decode cX0_wordings 22 = .ok (.iaload, 1) := by decide +kernel
theorem dX0_wordings_23 : decode cX0_wordings 23 = .ok (.iaload, 1) := by decide +kernel
theorem dX0_wordings_24 : decode cX0_wordings 24 = .ok (.invokestatic 121, 3) := by decide +kernel
theorem dX0_wordings_27 : decode cX0_wordings 27 = .ok (.imul, 1) := by decide +kernel
theorem dX0_wordings_28 : decode cX0_wordings 28 = .ok (.ldc 151, 2) := by decide +kernel
theorem dX0_wordings_30 : decode cX0_wordings 30 = .ok (.invokestatic 152, 3) := by decide +kernel
theorem dX0_wordings_33 : decode cX0_wordings 33 = .ok (.istore_n 1, 1) := by decide +kernel
theorem dX0_wordings_34 : decode cX0_wordings 34 = .ok (.iinc 2 1, 3) := by decide +kernel
theorem dX0_wordings_37 : decode cX0_wordings 37 = .ok (.goto (-33), 3) := by decide +kernel
theorem dX0_wordings_40 : decode cX0_wordings 40 = .ok (.iload_n 1, 1) := by decide +kernel
theorem dX0_wordings_41 : decode cX0_wordings 41 = .ok (.ireturn, 1) := by decide +kernel
theorem dX0_meanCost_0 : decode cX0_meanCost 0 = .ok (.aload_n 0, 1) := by decide +kernel
theorem dX0_meanCost_1 : decode cX0_meanCost 1 = .ok (.getfield 42, 3) := by decide +kernel
theorem dX0_meanCost_4 : decode cX0_meanCost 4 = .ok (.ifCond .ne 5, 3) := by decide +kernel
theorem dX0_meanCost_7 : decode cX0_meanCost 7 = .ok (.dconst 0, 1) := by decide +kernel
theorem dX0_meanCost_8 : decode cX0_meanCost 8 = .ok (.dreturn, 1) := by decide +kernel
theorem dX0_meanCost_9 : decode cX0_meanCost 9 = .ok (.aload_n 0, 1) := by decide +kernel
theorem dX0_meanCost_10 : decode cX0_meanCost 10 = .ok (.getfield 45, 3) := by decide +kernel
theorem dX0_meanCost_13 : decode cX0_meanCost 13 = .ok (.i2d, 1) := by decide +kernel
theorem dX0_meanCost_14 : decode cX0_meanCost 14 = .ok (.aload_n 0, 1) := by decide +kernel
theorem dX0_meanCost_15 : decode cX0_meanCost 15 = .ok (.getfield 42, 3) := by decide +kernel
theorem dX0_meanCost_18 : decode cX0_meanCost 18 = .ok (.i2d, 1) := by decide +kernel
theorem dX0_meanCost_19 : decode cX0_meanCost 19 = .ok (.ddiv, 1) := by decide +kernel
theorem dX0_meanCost_20 : decode cX0_meanCost 20 = .ok (.dreturn, 1) := by decide +kernel
theorem dX0_needWord_0 : decode cX0_needWord 0 = .ok (.iload_n 1, 1) := by decide +kernel
theorem dX0_needWord_1 : decode cX0_needWord 1 = .ok (.ifCond .lt 11, 3) := by decide +kernel
theorem dX0_needWord_4 : decode cX0_needWord 4 = .ok (.iload_n 1, 1) := by decide +kernel
theorem dX0_needWord_5 : decode cX0_needWord 5 = .ok (.aload_n 0, 1) := by decide +kernel
theorem dX0_needWord_6 : decode cX0_needWord 6 = .ok (.getfield 19, 3) := by decide +kernel
theorem dX0_needWord_9 : decode cX0_needWord 9 = .ok (.if_icmp .lt 13, 3) := by decide +kernel
theorem dX0_needWord_12 : decode cX0_needWord 12 = .ok (.new 133, 3) := by decide +kernel
theorem dX0_needWord_15 : decode cX0_needWord 15 = .ok (.dup, 1) := by decide +kernel
theorem dX0_needWord_16 : decode cX0_needWord 16 = .ok (.ldc 171, 2) := by decide +kernel
theorem dX0_needWord_18 : decode cX0_needWord 18 = .ok (.invokespecial 137, 3) := by decide +kernel
theorem dX0_needWord_21 : decode cX0_needWord 21 = .ok (.athrow, 1) := by decide +kernel
theorem dX0_needWord_22 : decode cX0_needWord 22 = .ok (.return_, 1) := by decide +kernel
theorem dX0_needPlace_0 : decode cX0_needPlace 0 = .ok (.iload_n 1, 1) := by decide +kernel
theorem dX0_needPlace_1 : decode cX0_needPlace 1 = .ok (.ifCond .lt 11, 3) := by decide +kernel
theorem dX0_needPlace_4 : decode cX0_needPlace 4 = .ok (.iload_n 1, 1) := by decide +kernel
theorem dX0_needPlace_5 : decode cX0_needPlace 5 = .ok (.aload_n 0, 1) := by decide +kernel
theorem dX0_needPlace_6 : decode cX0_needPlace 6 = .ok (.getfield 39, 3) := by decide +kernel
theorem dX0_needPlace_9 : decode cX0_needPlace 9 = .ok (.if_icmp .lt 13, 3) := by decide +kernel
theorem dX0_needPlace_12 : decode cX0_needPlace 12 = .ok (.new 133, 3) := by decide +kernel
theorem dX0_needPlace_15 : decode cX0_needPlace 15 = .ok (.dup, 1) := by decide +kernel
theorem dX0_needPlace_16 : decode cX0_needPlace 16 = .ok (.ldc 173, 2) := by decide +kernel
theorem dX0_needPlace_18 : decode cX0_needPlace 18 = .ok (.invokespecial 137, 3) := by decide +kernel
theorem dX0_needPlace_21 : decode cX0_needPlace 21 = .ok (.athrow, 1) := by decide +kernel
theorem dX0_needPlace_22 : decode cX0_needPlace 22 = .ok (.return_, 1) := by decide +kernel
theorem dX0_hasBit_0 : decode cX0_hasBit 0 = .ok (.iload_n 0, 1) := by decide +kernel
theorem dX0_hasBit_1 : decode cX0_hasBit 1 = .ok (.iload_n 1, 1) := by decide +kernel
theorem dX0_hasBit_2 : decode cX0_hasBit 2 = .ok (.ishr, 1) := by decide +kernel
theorem dX0_hasBit_3 : decode cX0_hasBit 3 = .ok (.iconst 1, 1) := by decide +kernel
theorem dX0_hasBit_4 : decode cX0_hasBit 4 = .ok (.iand, 1) := by decide +kernel
theorem dX0_hasBit_5 : decode cX0_hasBit 5 = .ok (.iconst 1, 1) := by decide +kernel
theorem dX0_hasBit_6 : decode cX0_hasBit 6 = .ok (.if_icmp .ne 7, 3) := by decide +kernel
theorem dX0_hasBit_9 : decode cX0_hasBit 9 = .ok (.iconst 1, 1) := by decide +kernel
theorem dX0_hasBit_10 : decode cX0_hasBit 10 = .ok (.goto 4, 3) := by decide +kernel
theorem dX0_hasBit_13 : decode cX0_hasBit 13 = .ok (.iconst 0, 1) := by decide +kernel
theorem dX0_hasBit_14 : decode cX0_hasBit 14 = .ok (.ireturn, 1) := by decide +kernel
theorem dX0_countOfLetters_0 : decode cX0_countOfLetters 0 = .ok (.iload_n 1, 1) := by decide +kernel
theorem dX0_countOfLetters_1 : decode cX0_countOfLetters 1 = .ok (.aload_n 0, 1) := by decide +kernel
theorem dX0_countOfLetters_2 : decode cX0_countOfLetters 2 = .ok (.getfield 23, 3) := by decide +kernel
theorem dX0_countOfLetters_5 : decode cX0_countOfLetters 5 = .ok (.iadd, 1) := by decide +kernel
theorem dX0_countOfLetters_6 : decode cX0_countOfLetters 6 = .ok (.iconst 1, 1) := by decide +kernel
theorem dX0_countOfLetters_7 : decode cX0_countOfLetters 7 = .ok (.isub, 1) := by decide +kernel
theorem dX0_countOfLetters_8 : decode cX0_countOfLetters 8 = .ok (.aload_n 0, 1) := by decide +kernel
theorem dX0_countOfLetters_9 : decode cX0_countOfLetters 9 = .ok (.getfield 23, 3) := by decide +kernel
theorem dX0_countOfLetters_12 : decode cX0_countOfLetters 12 = .ok (.idiv, 1) := by decide +kernel
theorem dX0_countOfLetters_13 : decode cX0_countOfLetters 13 = .ok (.ireturn, 1) := by decide +kernel
set_option maxRecDepth 20000 in
theorem ggX0_countOfPair_X0_countOfLetters : GoodIn wsX0_countOfPair wsX0_countOfLetters := goodIn_r _ [6, 7, 8, 9, 10, 11, 12, 13, 14, 15, 16, 17, 18, 19, 20, 21, 22, 23, 24, 25] (by decide +kernel) (by decide +kernel)
set_option maxRecDepth 20000 in
theorem gX0_countOfPair_X0_countOfLetters : GoodIn wsX0_countOfPair (wsV RX0 118 RX0 yX0_countOfLetters wsX0_countOfLetters) := goodIn_app (goodIn_of _ (by decide +kernel)) ggX0_countOfPair_X0_countOfLetters
theorem dX0_countOfPair_0 : decode cX0_countOfPair 0 = .ok (.aload_n 0, 1) := by decide +kernel
theorem dX0_countOfPair_1 : decode cX0_countOfPair 1 = .ok (.aload_n 0, 1) := by decide +kernel
theorem dX0_countOfPair_2 : decode cX0_countOfPair 2 = .ok (.getfield 9, 3) := by decide +kernel
theorem dX0_countOfPair_5 : decode cX0_countOfPair 5 = .ok (.iload_n 1, 1) := by decide +kernel
theorem dX0_countOfPair_6 : decode cX0_countOfPair 6 = .ok (.iaload, 1) := by decide +kernel
theorem dX0_countOfPair_7 : decode cX0_countOfPair 7 = .ok (.aload_n 0, 1) := by decide +kernel
theorem dX0_countOfPair_8 : decode cX0_countOfPair 8 = .ok (.getfield 9, 3) := by decide +kernel
theorem dX0_countOfPair_11 : decode cX0_countOfPair 11 = .ok (.iload_n 2, 1) := by decide +kernel
theorem dX0_countOfPair_12 : decode cX0_countOfPair 12 = .ok (.iaload, 1) := by decide +kernel
theorem dX0_countOfPair_13 : decode cX0_countOfPair 13 = .ok (.iadd, 1) := by decide +kernel
theorem dX0_countOfPair_14 : decode cX0_countOfPair 14 = .ok (.invokevirtual 118, 3) := by decide +kernel
theorem dX0_countOfPair_17 : decode cX0_countOfPair 17 = .ok (.ireturn, 1) := by decide +kernel
theorem dX0_atLeastTheLeastCount_0 : decode cX0_atLeastTheLeastCount 0 = .ok (.aload_n 0, 1) := by decide +kernel
theorem dX0_atLeastTheLeastCount_1 : decode cX0_atLeastTheLeastCount 1 = .ok (.getfield 39, 3) := by decide +kernel
theorem dX0_atLeastTheLeastCount_4 : decode cX0_atLeastTheLeastCount 4 = .ok (.ifCond .ne 7, 3) := by decide +kernel
theorem dX0_atLeastTheLeastCount_7 : decode cX0_atLeastTheLeastCount 7 = .ok (.iconst 0, 1) := by decide +kernel
theorem dX0_atLeastTheLeastCount_8 : decode cX0_atLeastTheLeastCount 8 = .ok (.goto 11, 3) := by decide +kernel
theorem dX0_atLeastTheLeastCount_11 : decode cX0_atLeastTheLeastCount 11 = .ok (.iload_n 1, 1) := by decide +kernel
theorem dX0_atLeastTheLeastCount_12 : decode cX0_atLeastTheLeastCount 12 = .ok (.aload_n 0, 1) := by decide +kernel
theorem dX0_atLeastTheLeastCount_13 : decode cX0_atLeastTheLeastCount 13 = .ok (.getfield 26, 3) := by decide +kernel
theorem dX0_atLeastTheLeastCount_16 : decode cX0_atLeastTheLeastCount 16 = .ok (.invokestatic 175, 3) := by decide +kernel
theorem dX0_atLeastTheLeastCount_19 : decode cX0_atLeastTheLeastCount 19 = .ok (.ireturn, 1) := by decide +kernel
set_option maxRecDepth 20000 in
theorem ggX0_couldBeJoined_X0_hasBit : GoodIn wsX0_couldBeJoined wsX0_hasBit := goodIn_r _ [7] (by decide +kernel) (by decide +kernel)
set_option maxRecDepth 20000 in
theorem gX0_couldBeJoined_X0_hasBit : GoodIn wsX0_couldBeJoined (va_wsS RX0 84 yX0_hasBit wsX0_hasBit) := goodIn_app (goodIn_of _ (by decide +kernel)) ggX0_couldBeJoined_X0_hasBit
theorem dX0_couldBeJoined_0 : decode cX0_couldBeJoined 0 = .ok (.iload_n 1, 1) := by decide +kernel
theorem dX0_couldBeJoined_1 : decode cX0_couldBeJoined 1 = .ok (.ifCond .le 14, 3) := by decide +kernel
theorem dX0_couldBeJoined_4 : decode cX0_couldBeJoined 4 = .ok (.aload_n 0, 1) := by decide +kernel
theorem dX0_couldBeJoined_5 : decode cX0_couldBeJoined 5 = .ok (.getfield 35, 3) := by decide +kernel
theorem dX0_couldBeJoined_8 : decode cX0_couldBeJoined 8 = .ok (.iload_n 1, 1) := by decide +kernel
theorem dX0_couldBeJoined_9 : decode cX0_couldBeJoined 9 = .ok (.iconst 1, 1) := by decide +kernel
theorem dX0_couldBeJoined_10 : decode cX0_couldBeJoined 10 = .ok (.isub, 1) := by decide +kernel
theorem dX0_couldBeJoined_11 : decode cX0_couldBeJoined 11 = .ok (.baload, 1) := by decide +kernel
theorem dX0_couldBeJoined_12 : decode cX0_couldBeJoined 12 = .ok (.ifCond .ne 14, 3) := by decide +kernel
theorem dX0_couldBeJoined_15 : decode cX0_couldBeJoined 15 = .ok (.aload_n 0, 1) := by decide +kernel
theorem dX0_couldBeJoined_16 : decode cX0_couldBeJoined 16 = .ok (.getfield 35, 3) := by decide +kernel
theorem dX0_couldBeJoined_19 : decode cX0_couldBeJoined 19 = .ok (.iload_n 1, 1) := by decide +kernel
theorem dX0_couldBeJoined_20 : decode cX0_couldBeJoined 20 = .ok (.iconst 1, 1) := by decide +kernel
theorem dX0_couldBeJoined_21 : decode cX0_couldBeJoined 21 = .ok (.iadd, 1) := by decide +kernel
theorem dX0_couldBeJoined_22 : decode cX0_couldBeJoined 22 = .ok (.baload, 1) := by decide +kernel
theorem dX0_couldBeJoined_23 : decode cX0_couldBeJoined 23 = .ok (.ifCond .eq 7, 3) := by decide +kernel
theorem dX0_couldBeJoined_26 : decode cX0_couldBeJoined 26 = .ok (.iconst 1, 1) := by decide +kernel
theorem dX0_couldBeJoined_27 : decode cX0_couldBeJoined 27 = .ok (.goto 4, 3) := by decide +kernel
theorem dX0_couldBeJoined_30 : decode cX0_couldBeJoined 30 = .ok (.iconst 0, 1) := by decide +kernel
theorem dX0_couldBeJoined_31 : decode cX0_couldBeJoined 31 = .ok (.istore_n 2, 1) := by decide +kernel
theorem dX0_couldBeJoined_32 : decode cX0_couldBeJoined 32 = .ok (.iload_n 2, 1) := by decide +kernel
theorem dX0_couldBeJoined_33 : decode cX0_couldBeJoined 33 = .ok (.ifCond .ne 32, 3) := by decide +kernel
theorem dX0_couldBeJoined_36 : decode cX0_couldBeJoined 36 = .ok (.aload_n 0, 1) := by decide +kernel
theorem dX0_couldBeJoined_37 : decode cX0_couldBeJoined 37 = .ok (.getfield 16, 3) := by decide +kernel
theorem dX0_couldBeJoined_40 : decode cX0_couldBeJoined 40 = .ok (.aload_n 0, 1) := by decide +kernel
theorem dX0_couldBeJoined_41 : decode cX0_couldBeJoined 41 = .ok (.getfield 32, 3) := by decide +kernel
theorem dX0_couldBeJoined_44 : decode cX0_couldBeJoined 44 = .ok (.iload_n 1, 1) := by decide +kernel
theorem dX0_couldBeJoined_45 : decode cX0_couldBeJoined 45 = .ok (.iaload, 1) := by decide +kernel
theorem dX0_couldBeJoined_46 : decode cX0_couldBeJoined 46 = .ok (.iaload, 1) := by decide +kernel
theorem dX0_couldBeJoined_47 : decode cX0_couldBeJoined 47 = .ok (.aload_n 0, 1) := by decide +kernel
theorem dX0_couldBeJoined_48 : decode cX0_couldBeJoined 48 = .ok (.getfield 32, 3) := by decide +kernel
theorem dX0_couldBeJoined_51 : decode cX0_couldBeJoined 51 = .ok (.iload_n 1, 1) := by decide +kernel
theorem dX0_couldBeJoined_52 : decode cX0_couldBeJoined 52 = .ok (.iconst 1, 1) := by decide +kernel
theorem dX0_couldBeJoined_53 : decode cX0_couldBeJoined 53 = .ok (.iadd, 1) := by decide +kernel
theorem dX0_couldBeJoined_54 : decode cX0_couldBeJoined 54 = .ok (.iaload, 1) := by decide +kernel
theorem dX0_couldBeJoined_55 : decode cX0_couldBeJoined 55 = .ok (.invokestatic 84, 3) := by decide +kernel
theorem dX0_couldBeJoined_58 : decode cX0_couldBeJoined 58 = .ok (.ifCond .eq 7, 3) := by decide +kernel
theorem dX0_couldBeJoined_61 : decode cX0_couldBeJoined 61 = .ok (.iconst 1, 1) := by decide +kernel
theorem dX0_couldBeJoined_62 : decode cX0_couldBeJoined 62 = .ok (.goto 4, 3) := by decide +kernel
theorem dX0_couldBeJoined_65 : decode cX0_couldBeJoined 65 = .ok (.iconst 0, 1) := by decide +kernel
theorem dX0_couldBeJoined_66 : decode cX0_couldBeJoined 66 = .ok (.ireturn, 1) := by decide +kernel
set_option maxRecDepth 20000 in
theorem ggX0_mayHold_X0_hasBit : GoodIn wsX0_mayHold wsX0_hasBit := goodIn_r _ [7] (by decide +kernel) (by decide +kernel)
set_option maxRecDepth 20000 in
theorem gX0_mayHold_X0_hasBit : GoodIn wsX0_mayHold (va_wsS RX0 84 yX0_hasBit wsX0_hasBit) := goodIn_app (goodIn_of _ (by decide +kernel)) ggX0_mayHold_X0_hasBit
theorem dX0_mayHold_0 : decode cX0_mayHold 0 = .ok (.iload_n 1, 1) := by decide +kernel
theorem dX0_mayHold_1 : decode cX0_mayHold 1 = .ok (.aload_n 0, 1) := by decide +kernel
theorem dX0_mayHold_2 : decode cX0_mayHold 2 = .ok (.getfield 39, 3) := by decide +kernel
theorem dX0_mayHold_5 : decode cX0_mayHold 5 = .ok (.if_icmp .ge 25, 3) := by decide +kernel
theorem dX0_mayHold_8 : decode cX0_mayHold 8 = .ok (.aload_n 0, 1) := by decide +kernel
theorem dX0_mayHold_9 : decode cX0_mayHold 9 = .ok (.getfield 13, 3) := by decide +kernel
theorem dX0_mayHold_12 : decode cX0_mayHold 12 = .ok (.aload_n 0, 1) := by decide +kernel
theorem dX0_mayHold_13 : decode cX0_mayHold 13 = .ok (.getfield 32, 3) := by decide +kernel
theorem dX0_mayHold_16 : decode cX0_mayHold 16 = .ok (.iload_n 1, 1) := by decide +kernel
theorem dX0_mayHold_17 : decode cX0_mayHold 17 = .ok (.iaload, 1) := by decide +kernel
theorem dX0_mayHold_18 : decode cX0_mayHold 18 = .ok (.iaload, 1) := by decide +kernel
theorem dX0_mayHold_19 : decode cX0_mayHold 19 = .ok (.iload_n 2, 1) := by decide +kernel
theorem dX0_mayHold_20 : decode cX0_mayHold 20 = .ok (.invokestatic 84, 3) := by decide +kernel
theorem dX0_mayHold_23 : decode cX0_mayHold 23 = .ok (.ifCond .eq 7, 3) := by decide +kernel
theorem dX0_mayHold_26 : decode cX0_mayHold 26 = .ok (.iconst 1, 1) := by decide +kernel
theorem dX0_mayHold_27 : decode cX0_mayHold 27 = .ok (.goto 4, 3) := by decide +kernel
theorem dX0_mayHold_30 : decode cX0_mayHold 30 = .ok (.iconst 0, 1) := by decide +kernel
theorem dX0_mayHold_31 : decode cX0_mayHold 31 = .ok (.ireturn, 1) := by decide +kernel
set_option maxRecDepth 20000 in
theorem ggX0_noteLeastCounts_X0_bestWordAt : GoodIn wsX0_noteLeastCounts wsX0_bestWordAt := goodIn_r _ [10, 11, 5, 12, 3, 13, 14, 15, 9, 16, 1, 17, 18, 19, 20, 21, 22, 23, 24, 25, 35, 36, 37, 38, 39, 40, 41, 42, 43, 44, 45, 46, 47, 48, 49, 50, 51, 52] (by decide +kernel) (by decide +kernel)
set_option maxRecDepth 20000 in
theorem gX0_noteLeastCounts_X0_bestWordAt : GoodIn wsX0_noteLeastCounts (wsV RX0 178 RX0 yX0_bestWordAt wsX0_bestWordAt) := goodIn_app (goodIn_of _ (by decide +kernel)) ggX0_noteLeastCounts_X0_bestWordAt
set_option maxRecDepth 20000 in
theorem ggX0_noteLeastCounts_X0_countOfLetters : GoodIn wsX0_noteLeastCounts wsX0_countOfLetters := goodIn_r _ [24, 25, 35, 36, 37, 38, 39, 40, 41, 42, 43, 44, 45, 46, 47, 48, 49, 50, 51, 52] (by decide +kernel) (by decide +kernel)
set_option maxRecDepth 20000 in
theorem gX0_noteLeastCounts_X0_countOfLetters : GoodIn wsX0_noteLeastCounts (wsV RX0 118 RX0 yX0_countOfLetters wsX0_countOfLetters) := goodIn_app (goodIn_of _ (by decide +kernel)) ggX0_noteLeastCounts_X0_countOfLetters
set_option maxRecDepth 20000 in
theorem ggX0_noteLeastCounts_X0_bestPairAt : GoodIn wsX0_noteLeastCounts wsX0_bestPairAt := goodIn_r _ [29, 5, 12, 30, 13, 14, 15, 9, 16, 1, 17, 11, 18, 19, 20, 31, 32, 33, 34, 3, 21, 22, 23, 24, 25, 35, 36, 37, 38, 39, 40, 41, 42, 43, 44, 45, 46, 47, 48, 49, 50, 51, 52] (by decide +kernel) (by decide +kernel)
set_option maxRecDepth 20000 in
theorem gX0_noteLeastCounts_X0_bestPairAt : GoodIn wsX0_noteLeastCounts (wsV RX0 181 RX0 yX0_bestPairAt wsX0_bestPairAt) := goodIn_app (goodIn_of _ (by decide +kernel)) ggX0_noteLeastCounts_X0_bestPairAt
set_option maxRecDepth 20000 in
theorem ggX0_noteLeastCounts_X0_countOfPair : GoodIn wsX0_noteLeastCounts wsX0_countOfPair := goodIn_r _ [34, 3, 21, 22, 23, 9, 24, 25, 35, 36, 37, 38, 39, 40, 41, 42, 43, 44, 45, 46, 47, 48, 49, 50, 51, 52] (by decide +kernel) (by decide +kernel)
set_option maxRecDepth 20000 in
theorem gX0_noteLeastCounts_X0_countOfPair : GoodIn wsX0_noteLeastCounts (wsV RX0 126 RX0 yX0_countOfPair wsX0_countOfPair) := goodIn_app (goodIn_of _ (by decide +kernel)) ggX0_noteLeastCounts_X0_countOfPair
theorem dX0_noteLeastCounts_0 : decode cX0_noteLeastCounts 0 = .ok (.iconst 0, 1) := by decide +kernel
theorem dX0_noteLeastCounts_1 : decode cX0_noteLeastCounts 1 = .ok (.istore_n 1, 1) := by decide +kernel
theorem dX0_noteLeastCounts_2 : decode cX0_noteLeastCounts 2 = .ok (.iload_n 1, 1) := by decide +kernel
theorem dX0_noteLeastCounts_3 : decode cX0_noteLeastCounts 3 = .ok (.aload_n 0, 1) := by decide +kernel
theorem dX0_noteLeastCounts_4 : decode cX0_noteLeastCounts 4 = .ok (.getfield 39, 3) := by decide +kernel
theorem dX0_noteLeastCounts_7 : decode cX0_noteLeastCounts 7 = .ok (.if_icmp .ge 63, 3) := by decide +kernel
theorem dX0_noteLeastCounts_10 : decode cX0_noteLeastCounts 10 = .ok (.aload_n 0, 1) := by decide +kernel
theorem dX0_noteLeastCounts_11 : decode cX0_noteLeastCounts 11 = .ok (.getfield 48, 3) := by decide +kernel
theorem dX0_noteLeastCounts_14 : decode cX0_noteLeastCounts 14 = .ok (.iload_n 1, 1) := by decide +kernel
theorem dX0_noteLeastCounts_15 : decode cX0_noteLeastCounts 15 = .ok (.aload_n 0, 1) := by decide +kernel
theorem dX0_noteLeastCounts_16 : decode cX0_noteLeastCounts 16 = .ok (.aload_n 0, 1) := by decide +kernel
theorem dX0_noteLeastCounts_17 : decode cX0_noteLeastCounts 17 = .ok (.getfield 9, 3) := by decide +kernel
theorem dX0_noteLeastCounts_20 : decode cX0_noteLeastCounts 20 = .ok (.aload_n 0, 1) := by decide +kernel
theorem dX0_noteLeastCounts_21 : decode cX0_noteLeastCounts 21 = .ok (.iload_n 1, 1) := by decide +kernel
theorem dX0_noteLeastCounts_22 : decode cX0_noteLeastCounts 22 = .ok (.invokevirtual 178, 3) := by decide +kernel
theorem dX0_noteLeastCounts_25 : decode cX0_noteLeastCounts 25 = .ok (.iaload, 1) := by decide +kernel
theorem dX0_noteLeastCounts_26 : decode cX0_noteLeastCounts 26 = .ok (.invokevirtual 118, 3) := by decide +kernel
theorem dX0_noteLeastCounts_29 : decode cX0_noteLeastCounts 29 = .ok (.iastore, 1) := by decide +kernel
theorem dX0_noteLeastCounts_30 : decode cX0_noteLeastCounts 30 = .ok (.aload_n 0, 1) := by decide +kernel
theorem dX0_noteLeastCounts_31 : decode cX0_noteLeastCounts 31 = .ok (.iload_n 1, 1) := by decide +kernel
theorem dX0_noteLeastCounts_32 : decode cX0_noteLeastCounts 32 = .ok (.invokevirtual 181, 3) := by decide +kernel
theorem dX0_noteLeastCounts_35 : decode cX0_noteLeastCounts 35 = .ok (.istore_n 2, 1) := by decide +kernel
theorem dX0_noteLeastCounts_36 : decode cX0_noteLeastCounts 36 = .ok (.aload_n 0, 1) := by decide +kernel
theorem dX0_noteLeastCounts_37 : decode cX0_noteLeastCounts 37 = .ok (.getfield 51, 3) := by decide +kernel
theorem dX0_noteLeastCounts_40 : decode cX0_noteLeastCounts 40 = .ok (.iload_n 1, 1) := by decide +kernel
theorem dX0_noteLeastCounts_41 : decode cX0_noteLeastCounts 41 = .ok (.iload_n 2, 1) := by decide +kernel
theorem dX0_noteLeastCounts_42 : decode cX0_noteLeastCounts 42 = .ok (.iconst (-1), 1) := by decide +kernel
theorem dX0_noteLeastCounts_43 : decode cX0_noteLeastCounts 43 = .ok (.if_icmp .ne 8, 3) := by decide +kernel
theorem dX0_noteLeastCounts_46 : decode cX0_noteLeastCounts 46 = .ok (.ldc 151, 2) := by decide +kernel
theorem dX0_noteLeastCounts_48 : decode cX0_noteLeastCounts 48 = .ok (.goto 15, 3) := by decide +kernel
theorem dX0_noteLeastCounts_51 : decode cX0_noteLeastCounts 51 = .ok (.aload_n 0, 1) := by decide +kernel
theorem dX0_noteLeastCounts_52 : decode cX0_noteLeastCounts 52 = .ok (.iload_n 2, 1) := by decide +kernel
theorem dX0_noteLeastCounts_53 : decode cX0_noteLeastCounts 53 = .ok (.bipush 100, 2) := by decide +kernel
theorem dX0_noteLeastCounts_55 : decode cX0_noteLeastCounts 55 = .ok (.idiv, 1) := by decide +kernel
theorem dX0_noteLeastCounts_56 : decode cX0_noteLeastCounts 56 = .ok (.iload_n 2, 1) := by decide +kernel
theorem dX0_noteLeastCounts_57 : decode cX0_noteLeastCounts 57 = .ok (.bipush 100, 2) := by decide +kernel
theorem dX0_noteLeastCounts_59 : decode cX0_noteLeastCounts 59 = .ok (.irem, 1) := by decide +kernel
theorem dX0_noteLeastCounts_60 : decode cX0_noteLeastCounts 60 = .ok (.invokevirtual 126, 3) := by decide +kernel
theorem dX0_noteLeastCounts_63 : decode cX0_noteLeastCounts 63 = .ok (.iastore, 1) := by decide +kernel
theorem dX0_noteLeastCounts_64 : decode cX0_noteLeastCounts 64 = .ok (.iinc 1 1, 3) := by decide +kernel
theorem dX0_noteLeastCounts_67 : decode cX0_noteLeastCounts 67 = .ok (.goto (-65), 3) := by decide +kernel
theorem dX0_noteLeastCounts_70 : decode cX0_noteLeastCounts 70 = .ok (.return_, 1) := by decide +kernel
set_option maxRecDepth 20000 in
theorem ggX0_bestWordAt_X0_mayHold : GoodIn wsX0_bestWordAt wsX0_mayHold := goodIn_r _ [9, 10, 11, 1, 12, 13, 8, 14, 20, 21, 22, 23, 24, 25, 26, 27, 28, 29, 30, 31, 32, 33, 34, 35, 36, 37] (by decide +kernel) (by decide +kernel)
set_option maxRecDepth 20000 in
theorem gX0_bestWordAt_X0_mayHold : GoodIn wsX0_bestWordAt (wsV RX0 184 RX0 yX0_mayHold wsX0_mayHold) := goodIn_app (goodIn_of _ (by decide +kernel)) ggX0_bestWordAt_X0_mayHold
set_option maxRecDepth 20000 in
theorem ggX0_bestWordAt_X0_countOfLetters : GoodIn wsX0_bestWordAt wsX0_countOfLetters := goodIn_r _ [18, 19, 20, 21, 22, 23, 24, 25, 26, 27, 28, 29, 30, 31, 32, 33, 34, 35, 36, 37] (by decide +kernel) (by decide +kernel)
set_option maxRecDepth 20000 in
theorem gX0_bestWordAt_X0_countOfLetters : GoodIn wsX0_bestWordAt (wsV RX0 118 RX0 yX0_countOfLetters wsX0_countOfLetters) := goodIn_app (goodIn_of _ (by decide +kernel)) ggX0_bestWordAt_X0_countOfLetters
theorem dX0_bestWordAt_0 : decode cX0_bestWordAt 0 = .ok (.aload_n 0, 1) := by decide +kernel
theorem dX0_bestWordAt_1 : decode cX0_bestWordAt 1 = .ok (.getfield 32, 3) := by decide +kernel
theorem dX0_bestWordAt_4 : decode cX0_bestWordAt 4 = .ok (.iload_n 1, 1) := by decide +kernel
theorem dX0_bestWordAt_5 : decode cX0_bestWordAt 5 = .ok (.iaload, 1) := by decide +kernel
theorem dX0_bestWordAt_6 : decode cX0_bestWordAt 6 = .ok (.istore_n 2, 1) := by decide +kernel
theorem dX0_bestWordAt_7 : decode cX0_bestWordAt 7 = .ok (.ldc 151, 2) := by decide +kernel
theorem dX0_bestWordAt_9 : decode cX0_bestWordAt 9 = .ok (.istore_n 3, 1) := by decide +kernel
theorem dX0_bestWordAt_10 : decode cX0_bestWordAt 10 = .ok (.iconst 0, 1) := by decide +kernel
theorem dX0_bestWordAt_11 : decode cX0_bestWordAt 11 = .ok (.istore 4, 2) := by decide +kernel
theorem dX0_bestWordAt_13 : decode cX0_bestWordAt 13 = .ok (.iload 4, 2) := by decide +kernel
theorem dX0_bestWordAt_15 : decode cX0_bestWordAt 15 = .ok (.aload_n 0, 1) := by decide +kernel
theorem dX0_bestWordAt_16 : decode cX0_bestWordAt 16 = .ok (.getfield 19, 3) := by decide +kernel
theorem dX0_bestWordAt_19 : decode cX0_bestWordAt 19 = .ok (.if_icmp .ge 49, 3) := by decide +kernel
theorem dX0_bestWordAt_22 : decode cX0_bestWordAt 22 = .ok (.aload_n 0, 1) := by decide +kernel
theorem dX0_bestWordAt_23 : decode cX0_bestWordAt 23 = .ok (.iload_n 1, 1) := by decide +kernel
theorem dX0_bestWordAt_24 : decode cX0_bestWordAt 24 = .ok (.iload 4, 2) := by decide +kernel
theorem dX0_bestWordAt_26 : decode cX0_bestWordAt 26 = .ok (.invokevirtual 184, 3) := by decide +kernel
theorem dX0_bestWordAt_29 : decode cX0_bestWordAt 29 = .ok (.ifCond .eq 33, 3) := by decide +kernel
theorem dX0_bestWordAt_32 : decode cX0_bestWordAt 32 = .ok (.aload_n 0, 1) := by decide +kernel
theorem dX0_bestWordAt_33 : decode cX0_bestWordAt 33 = .ok (.aload_n 0, 1) := by decide +kernel
theorem dX0_bestWordAt_34 : decode cX0_bestWordAt 34 = .ok (.getfield 9, 3) := by decide +kernel
theorem dX0_bestWordAt_37 : decode cX0_bestWordAt 37 = .ok (.iload 4, 2) := by decide +kernel
theorem dX0_bestWordAt_39 : decode cX0_bestWordAt 39 = .ok (.iaload, 1) := by decide +kernel
theorem dX0_bestWordAt_40 : decode cX0_bestWordAt 40 = .ok (.invokevirtual 118, 3) := by decide +kernel
theorem dX0_bestWordAt_43 : decode cX0_bestWordAt 43 = .ok (.iload_n 3, 1) := by decide +kernel
theorem dX0_bestWordAt_44 : decode cX0_bestWordAt 44 = .ok (.if_icmp .ge 18, 3) := by decide +kernel
theorem dX0_bestWordAt_47 : decode cX0_bestWordAt 47 = .ok (.iload 4, 2) := by decide +kernel
theorem dX0_bestWordAt_49 : decode cX0_bestWordAt 49 = .ok (.istore_n 2, 1) := by decide +kernel
theorem dX0_bestWordAt_50 : decode cX0_bestWordAt 50 = .ok (.aload_n 0, 1) := by decide +kernel
theorem dX0_bestWordAt_51 : decode cX0_bestWordAt 51 = .ok (.aload_n 0, 1) := by decide +kernel
theorem dX0_bestWordAt_52 : decode cX0_bestWordAt 52 = .ok (.getfield 9, 3) := by decide +kernel
theorem dX0_bestWordAt_55 : decode cX0_bestWordAt 55 = .ok (.iload 4, 2) := by decide +kernel
theorem dX0_bestWordAt_57 : decode cX0_bestWordAt 57 = .ok (.iaload, 1) := by decide +kernel
theorem dX0_bestWordAt_58 : decode cX0_bestWordAt 58 = .ok (.invokevirtual 118, 3) := by decide +kernel
theorem dX0_bestWordAt_61 : decode cX0_bestWordAt 61 = .ok (.istore_n 3, 1) := by decide +kernel
theorem dX0_bestWordAt_62 : decode cX0_bestWordAt 62 = .ok (.iinc 4 1, 3) := by decide +kernel
theorem dX0_bestWordAt_65 : decode cX0_bestWordAt 65 = .ok (.goto (-52), 3) := by decide +kernel
theorem dX0_bestWordAt_68 : decode cX0_bestWordAt 68 = .ok (.iload_n 2, 1) := by decide +kernel
theorem dX0_bestWordAt_69 : decode cX0_bestWordAt 69 = .ok (.ireturn, 1) := by decide +kernel
set_option maxRecDepth 20000 in
theorem ggX0_bestPairAt_X0_mayHold : GoodIn wsX0_bestPairAt wsX0_mayHold := goodIn_r _ [8, 9, 10, 11, 12, 13, 7, 14, 25, 26, 27, 28, 29, 30, 31, 32, 33, 34, 35, 36, 37, 38, 39, 40, 41, 42] (by decide +kernel) (by decide +kernel)
set_option maxRecDepth 20000 in
theorem gX0_bestPairAt_X0_mayHold : GoodIn wsX0_bestPairAt (wsV RX0 184 RX0 yX0_mayHold wsX0_mayHold) := goodIn_app (goodIn_of _ (by decide +kernel)) ggX0_bestPairAt_X0_mayHold
set_option maxRecDepth 20000 in
theorem ggX0_bestPairAt_X0_hasBit : GoodIn wsX0_bestPairAt wsX0_hasBit := goodIn_r _ [14] (by decide +kernel) (by decide +kernel)
set_option maxRecDepth 20000 in
theorem gX0_bestPairAt_X0_hasBit : GoodIn wsX0_bestPairAt (va_wsS RX0 84 yX0_hasBit wsX0_hasBit) := goodIn_app (goodIn_of _ (by decide +kernel)) ggX0_bestPairAt_X0_hasBit
set_option maxRecDepth 20000 in
theorem ggX0_bestPairAt_X0_countOfPair : GoodIn wsX0_bestPairAt wsX0_countOfPair := goodIn_r _ [18, 19, 20, 21, 22, 7, 23, 24, 25, 26, 27, 28, 29, 30, 31, 32, 33, 34, 35, 36, 37, 38, 39, 40, 41, 42] (by decide +kernel) (by decide +kernel)
set_option maxRecDepth 20000 in
theorem gX0_bestPairAt_X0_countOfPair : GoodIn wsX0_bestPairAt (wsV RX0 126 RX0 yX0_countOfPair wsX0_countOfPair) := goodIn_app (goodIn_of _ (by decide +kernel)) ggX0_bestPairAt_X0_countOfPair
theorem dX0_bestPairAt_0 : decode cX0_bestPairAt 0 = .ok (.iconst (-1), 1) := by decide +kernel
theorem dX0_bestPairAt_1 : decode cX0_bestPairAt 1 = .ok (.istore_n 2, 1) := by decide +kernel
theorem dX0_bestPairAt_2 : decode cX0_bestPairAt 2 = .ok (.ldc 151, 2) := by decide +kernel
theorem dX0_bestPairAt_4 : decode cX0_bestPairAt 4 = .ok (.istore_n 3, 1) := by decide +kernel
theorem dX0_bestPairAt_5 : decode cX0_bestPairAt 5 = .ok (.iconst 0, 1) := by decide +kernel
theorem dX0_bestPairAt_6 : decode cX0_bestPairAt 6 = .ok (.istore 4, 2) := by decide +kernel
theorem dX0_bestPairAt_8 : decode cX0_bestPairAt 8 = .ok (.iload 4, 2) := by decide +kernel
theorem dX0_bestPairAt_10 : decode cX0_bestPairAt 10 = .ok (.aload_n 0, 1) := by decide +kernel
theorem dX0_bestPairAt_11 : decode cX0_bestPairAt 11 = .ok (.getfield 19, 3) := by decide +kernel
theorem dX0_bestPairAt_14 : decode cX0_bestPairAt 14 = .ok (.if_icmp .ge 106, 3) := by decide +kernel
theorem dX0_bestPairAt_17 : decode cX0_bestPairAt 17 = .ok (.aload_n 0, 1) := by decide +kernel
theorem dX0_bestPairAt_18 : decode cX0_bestPairAt 18 = .ok (.iload_n 1, 1) := by decide +kernel
theorem dX0_bestPairAt_19 : decode cX0_bestPairAt 19 = .ok (.iload 4, 2) := by decide +kernel
theorem dX0_bestPairAt_21 : decode cX0_bestPairAt 21 = .ok (.invokevirtual 184, 3) := by decide +kernel
theorem dX0_bestPairAt_24 : decode cX0_bestPairAt 24 = .ok (.ifCond .eq 90, 3) := by decide +kernel
theorem dX0_bestPairAt_27 : decode cX0_bestPairAt 27 = .ok (.iconst 0, 1) := by decide +kernel
theorem dX0_bestPairAt_28 : decode cX0_bestPairAt 28 = .ok (.istore 5, 2) := by decide +kernel
theorem dX0_bestPairAt_30 : decode cX0_bestPairAt 30 = .ok (.iload 5, 2) := by decide +kernel
theorem dX0_bestPairAt_32 : decode cX0_bestPairAt 32 = .ok (.aload_n 0, 1) := by decide +kernel
theorem dX0_bestPairAt_33 : decode cX0_bestPairAt 33 = .ok (.getfield 19, 3) := by decide +kernel
theorem dX0_bestPairAt_36 : decode cX0_bestPairAt 36 = .ok (.if_icmp .ge 78, 3) := by decide +kernel
theorem dX0_bestPairAt_39 : decode cX0_bestPairAt 39 = .ok (.aload_n 0, 1) := by decide +kernel
theorem dX0_bestPairAt_40 : decode cX0_bestPairAt 40 = .ok (.iload_n 1, 1) := by decide +kernel
theorem dX0_bestPairAt_41 : decode cX0_bestPairAt 41 = .ok (.iconst 1, 1) := by decide +kernel
theorem dX0_bestPairAt_42 : decode cX0_bestPairAt 42 = .ok (.iadd, 1) := by decide +kernel
theorem dX0_bestPairAt_43 : decode cX0_bestPairAt 43 = .ok (.iload 5, 2) := by decide +kernel
theorem dX0_bestPairAt_45 : decode cX0_bestPairAt 45 = .ok (.invokevirtual 184, 3) := by decide +kernel
theorem dX0_bestPairAt_48 : decode cX0_bestPairAt 48 = .ok (.ifCond .eq 22, 3) := by decide +kernel
theorem dX0_bestPairAt_51 : decode cX0_bestPairAt 51 = .ok (.aload_n 0, 1) := by decide +kernel
theorem dX0_bestPairAt_52 : decode cX0_bestPairAt 52 = .ok (.getfield 16, 3) := by decide +kernel
theorem dX0_bestPairAt_55 : decode cX0_bestPairAt 55 = .ok (.iload 4, 2) := by decide +kernel
theorem dX0_bestPairAt_57 : decode cX0_bestPairAt 57 = .ok (.iaload, 1) := by decide +kernel
theorem dX0_bestPairAt_58 : decode cX0_bestPairAt 58 = .ok (.iload 5, 2) := by decide +kernel
theorem dX0_bestPairAt_60 : decode cX0_bestPairAt 60 = .ok (.invokestatic 84, 3) := by decide +kernel
theorem dX0_bestPairAt_63 : decode cX0_bestPairAt 63 = .ok (.ifCond .eq 7, 3) := by decide +kernel
theorem dX0_bestPairAt_66 : decode cX0_bestPairAt 66 = .ok (.iconst 1, 1) := by decide +kernel
theorem dX0_bestPairAt_67 : decode cX0_bestPairAt 67 = .ok (.goto 4, 3) := by decide +kernel
theorem dX0_bestPairAt_70 : decode cX0_bestPairAt 70 = .ok (.iconst 0, 1) := by decide +kernel
theorem dX0_bestPairAt_71 : decode cX0_bestPairAt 71 = .ok (.istore 6, 2) := by decide +kernel
theorem dX0_bestPairAt_73 : decode cX0_bestPairAt 73 = .ok (.iload 6, 2) := by decide +kernel
theorem dX0_bestPairAt_75 : decode cX0_bestPairAt 75 = .ok (.ifCond .eq 33, 3) := by decide +kernel
theorem dX0_bestPairAt_78 : decode cX0_bestPairAt 78 = .ok (.aload_n 0, 1) := by decide +kernel
theorem dX0_bestPairAt_79 : decode cX0_bestPairAt 79 = .ok (.iload 4, 2) := by decide +kernel
theorem dX0_bestPairAt_81 : decode cX0_bestPairAt 81 = .ok (.iload 5, 2) := by decide +kernel
theorem dX0_bestPairAt_83 : decode cX0_bestPairAt 83 = .ok (.invokevirtual 126, 3) := by decide +kernel
theorem dX0_bestPairAt_86 : decode cX0_bestPairAt 86 = .ok (.iload_n 3, 1) := by decide +kernel
theorem dX0_bestPairAt_87 : decode cX0_bestPairAt 87 = .ok (.if_icmp .ge 21, 3) := by decide +kernel
theorem dX0_bestPairAt_90 : decode cX0_bestPairAt 90 = .ok (.iload 4, 2) := by decide +kernel
theorem dX0_bestPairAt_92 : decode cX0_bestPairAt 92 = .ok (.bipush 100, 2) := by decide +kernel
theorem dX0_bestPairAt_94 : decode cX0_bestPairAt 94 = .ok (.imul, 1) := by decide +kernel
theorem dX0_bestPairAt_95 : decode cX0_bestPairAt 95 = .ok (.iload 5, 2) := by decide +kernel
theorem dX0_bestPairAt_97 : decode cX0_bestPairAt 97 = .ok (.iadd, 1) := by decide +kernel
theorem dX0_bestPairAt_98 : decode cX0_bestPairAt 98 = .ok (.istore_n 2, 1) := by decide +kernel
theorem dX0_bestPairAt_99 : decode cX0_bestPairAt 99 = .ok (.aload_n 0, 1) := by decide +kernel
theorem dX0_bestPairAt_100 : decode cX0_bestPairAt 100 = .ok (.iload 4, 2) := by decide +kernel
theorem dX0_bestPairAt_102 : decode cX0_bestPairAt 102 = .ok (.iload 5, 2) := by decide +kernel
theorem dX0_bestPairAt_104 : decode cX0_bestPairAt 104 = .ok (.invokevirtual 126, 3) := by decide +kernel
theorem dX0_bestPairAt_107 : decode cX0_bestPairAt 107 = .ok (.istore_n 3, 1) := by decide +kernel
theorem dX0_bestPairAt_108 : decode cX0_bestPairAt 108 = .ok (.iinc 5 1, 3) := by decide +kernel
theorem dX0_bestPairAt_111 : decode cX0_bestPairAt 111 = .ok (.goto (-81), 3) := by decide +kernel
theorem dX0_bestPairAt_114 : decode cX0_bestPairAt 114 = .ok (.iinc 4 1, 3) := by decide +kernel
theorem dX0_bestPairAt_117 : decode cX0_bestPairAt 117 = .ok (.goto (-109), 3) := by decide +kernel
theorem dX0_bestPairAt_120 : decode cX0_bestPairAt 120 = .ok (.iload_n 2, 1) := by decide +kernel
theorem dX0_bestPairAt_121 : decode cX0_bestPairAt 121 = .ok (.ireturn, 1) := by decide +kernel
theorem dX0_leastInAll_0 : decode cX0_leastInAll 0 = .ok (.aload_n 0, 1) := by decide +kernel
theorem dX0_leastInAll_1 : decode cX0_leastInAll 1 = .ok (.getfield 57, 3) := by decide +kernel
theorem dX0_leastInAll_4 : decode cX0_leastInAll 4 = .ok (.aload_n 0, 1) := by decide +kernel
theorem dX0_leastInAll_5 : decode cX0_leastInAll 5 = .ok (.getfield 39, 3) := by decide +kernel
theorem dX0_leastInAll_8 : decode cX0_leastInAll 8 = .ok (.iconst 0, 1) := by decide +kernel
theorem dX0_leastInAll_9 : decode cX0_leastInAll 9 = .ok (.iastore, 1) := by decide +kernel
theorem dX0_leastInAll_10 : decode cX0_leastInAll 10 = .ok (.aload_n 0, 1) := by decide +kernel
theorem dX0_leastInAll_11 : decode cX0_leastInAll 11 = .ok (.getfield 57, 3) := by decide +kernel
theorem dX0_leastInAll_14 : decode cX0_leastInAll 14 = .ok (.aload_n 0, 1) := by decide +kernel
theorem dX0_leastInAll_15 : decode cX0_leastInAll 15 = .ok (.getfield 39, 3) := by decide +kernel
theorem dX0_leastInAll_18 : decode cX0_leastInAll 18 = .ok (.iconst 1, 1) := by decide +kernel
theorem dX0_leastInAll_19 : decode cX0_leastInAll 19 = .ok (.iadd, 1) := by decide +kernel
theorem dX0_leastInAll_20 : decode cX0_leastInAll 20 = .ok (.iconst 0, 1) := by decide +kernel
theorem dX0_leastInAll_21 : decode cX0_leastInAll 21 = .ok (.iastore, 1) := by decide +kernel
theorem dX0_leastInAll_22 : decode cX0_leastInAll 22 = .ok (.aload_n 0, 1) := by decide +kernel
theorem dX0_leastInAll_23 : decode cX0_leastInAll 23 = .ok (.getfield 39, 3) := by decide +kernel
theorem dX0_leastInAll_26 : decode cX0_leastInAll 26 = .ok (.iconst 1, 1) := by decide +kernel
theorem dX0_leastInAll_27 : decode cX0_leastInAll 27 = .ok (.isub, 1) := by decide +kernel
theorem dX0_leastInAll_28 : decode cX0_leastInAll 28 = .ok (.istore_n 2, 1) := by decide +kernel
theorem dX0_leastInAll_29 : decode cX0_leastInAll 29 = .ok (.iload_n 2, 1) := by decide +kernel
theorem dX0_leastInAll_30 : decode cX0_leastInAll 30 = .ok (.ifCond .lt 47, 3) := by decide +kernel
theorem dX0_leastInAll_33 : decode cX0_leastInAll 33 = .ok (.aload_n 0, 1) := by decide +kernel
theorem dX0_leastInAll_34 : decode cX0_leastInAll 34 = .ok (.getfield 48, 3) := by decide +kernel
theorem dX0_leastInAll_37 : decode cX0_leastInAll 37 = .ok (.iload_n 2, 1) := by decide +kernel
theorem dX0_leastInAll_38 : decode cX0_leastInAll 38 = .ok (.iaload, 1) := by decide +kernel
theorem dX0_leastInAll_39 : decode cX0_leastInAll 39 = .ok (.aload_n 0, 1) := by decide +kernel
theorem dX0_leastInAll_40 : decode cX0_leastInAll 40 = .ok (.getfield 57, 3) := by decide +kernel
theorem dX0_leastInAll_43 : decode cX0_leastInAll 43 = .ok (.iload_n 2, 1) := by decide +kernel
theorem dX0_leastInAll_44 : decode cX0_leastInAll 44 = .ok (.iconst 1, 1) := by decide +kernel
theorem dX0_leastInAll_45 : decode cX0_leastInAll 45 = .ok (.iadd, 1) := by decide +kernel
theorem dX0_leastInAll_46 : decode cX0_leastInAll 46 = .ok (.iaload, 1) := by decide +kernel
theorem dX0_leastInAll_47 : decode cX0_leastInAll 47 = .ok (.iadd, 1) := by decide +kernel
theorem dX0_leastInAll_48 : decode cX0_leastInAll 48 = .ok (.istore_n 3, 1) := by decide +kernel
theorem dX0_leastInAll_49 : decode cX0_leastInAll 49 = .ok (.aload_n 0, 1) := by decide +kernel
theorem dX0_leastInAll_50 : decode cX0_leastInAll 50 = .ok (.getfield 57, 3) := by decide +kernel
theorem dX0_leastInAll_53 : decode cX0_leastInAll 53 = .ok (.iload_n 2, 1) := by decide +kernel
theorem dX0_leastInAll_54 : decode cX0_leastInAll 54 = .ok (.iload_n 3, 1) := by decide +kernel
theorem dX0_leastInAll_55 : decode cX0_leastInAll 55 = .ok (.aload_n 1, 1) := by decide +kernel
theorem dX0_leastInAll_56 : decode cX0_leastInAll 56 = .ok (.iload_n 2, 1) := by decide +kernel
theorem dX0_leastInAll_57 : decode cX0_leastInAll 57 = .ok (.iaload, 1) := by decide +kernel
theorem dX0_leastInAll_58 : decode cX0_leastInAll 58 = .ok (.aload_n 0, 1) := by decide +kernel
theorem dX0_leastInAll_59 : decode cX0_leastInAll 59 = .ok (.getfield 57, 3) := by decide +kernel
theorem dX0_leastInAll_62 : decode cX0_leastInAll 62 = .ok (.iload_n 2, 1) := by decide +kernel
theorem dX0_leastInAll_63 : decode cX0_leastInAll 63 = .ok (.iconst 2, 1) := by decide +kernel
theorem dX0_leastInAll_64 : decode cX0_leastInAll 64 = .ok (.iadd, 1) := by decide +kernel
theorem dX0_leastInAll_65 : decode cX0_leastInAll 65 = .ok (.iaload, 1) := by decide +kernel
theorem dX0_leastInAll_66 : decode cX0_leastInAll 66 = .ok (.iadd, 1) := by decide +kernel
theorem dX0_leastInAll_67 : decode cX0_leastInAll 67 = .ok (.invokestatic 152, 3) := by decide +kernel
theorem dX0_leastInAll_70 : decode cX0_leastInAll 70 = .ok (.iastore, 1) := by decide +kernel
theorem dX0_leastInAll_71 : decode cX0_leastInAll 71 = .ok (.iinc 2 (-1), 3) := by decide +kernel
theorem dX0_leastInAll_74 : decode cX0_leastInAll 74 = .ok (.goto (-45), 3) := by decide +kernel
theorem dX0_leastInAll_77 : decode cX0_leastInAll 77 = .ok (.aload_n 0, 1) := by decide +kernel
theorem dX0_leastInAll_78 : decode cX0_leastInAll 78 = .ok (.getfield 57, 3) := by decide +kernel
theorem dX0_leastInAll_81 : decode cX0_leastInAll 81 = .ok (.iconst 0, 1) := by decide +kernel
theorem dX0_leastInAll_82 : decode cX0_leastInAll 82 = .ok (.iaload, 1) := by decide +kernel
theorem dX0_leastInAll_83 : decode cX0_leastInAll 83 = .ok (.ireturn, 1) := by decide +kernel
set_option maxRecDepth 20000 in
theorem ggX0_noteCheapestWording_X0_noteLeastCounts : GoodIn wsX0_noteCheapestWording wsX0_noteLeastCounts := goodIn_r _ [9, 2, 3, 10, 1, 11, 12, 13, 14, 8, 15, 16, 17, 18, 19, 20, 21, 22, 23, 24, 25, 26, 27, 28, 29, 30, 31, 32, 33, 34, 35, 36, 37, 38, 39, 54, 55, 56, 57, 58, 59, 60, 61, 62, 63, 64, 65, 66, 67, 68, 69, 70, 71] (by decide +kernel) (by decide +kernel)
set_option maxRecDepth 20000 in
theorem gX0_noteCheapestWording_X0_noteLeastCounts : GoodIn wsX0_noteCheapestWording (wsV RX0 141 RX0 yX0_noteLeastCounts wsX0_noteLeastCounts) := goodIn_app (goodIn_of _ (by decide +kernel)) ggX0_noteCheapestWording_X0_noteLeastCounts
set_option maxRecDepth 20000 in
theorem ggX0_noteCheapestWording_X0_leastInAll : GoodIn wsX0_noteCheapestWording wsX0_leastInAll := goodIn_r _ [43, 4, 2, 3, 44, 45, 46, 47, 54, 55, 56, 57, 58, 59, 60, 61, 62, 63, 64, 65, 66, 67, 68, 69, 70, 71] (by decide +kernel) (by decide +kernel)
set_option maxRecDepth 20000 in
theorem gX0_noteCheapestWording_X0_leastInAll : GoodIn wsX0_noteCheapestWording (wsV RX0 144 RX0 yX0_leastInAll wsX0_leastInAll) := goodIn_app (goodIn_of _ (by decide +kernel)) ggX0_noteCheapestWording_X0_leastInAll
set_option maxRecDepth 20000 in
theorem ggX0_noteCheapestWording_X0_bestPairAt : GoodIn wsX0_noteCheapestWording wsX0_bestPairAt := goodIn_r _ [34, 11, 17, 35, 18, 19, 20, 8, 21, 2, 22, 16, 23, 24, 25, 36, 37, 38, 39, 10, 26, 27, 28, 29, 30, 54, 55, 56, 57, 58, 59, 60, 61, 62, 63, 64, 65, 66, 67, 68, 69, 70, 71] (by decide +kernel) (by decide +kernel)
set_option maxRecDepth 20000 in
theorem gX0_noteCheapestWording_X0_bestPairAt : GoodIn wsX0_noteCheapestWording (wsV RX0 181 RX0 yX0_bestPairAt wsX0_bestPairAt) := goodIn_app (goodIn_of _ (by decide +kernel)) ggX0_noteCheapestWording_X0_bestPairAt
set_option maxRecDepth 20000 in
theorem ggX0_noteCheapestWording_X0_bestWordAt : GoodIn wsX0_noteCheapestWording wsX0_bestWordAt := goodIn_r _ [15, 16, 11, 17, 10, 18, 19, 20, 8, 21, 2, 22, 23, 24, 25, 26, 27, 28, 29, 30, 54, 55, 56, 57, 58, 59, 60, 61, 62, 63, 64, 65, 66, 67, 68, 69, 70, 71] (by decide +kernel) (by decide +kernel)
set_option maxRecDepth 20000 in
theorem gX0_noteCheapestWording_X0_bestWordAt : GoodIn wsX0_noteCheapestWording (wsV RX0 178 RX0 yX0_bestWordAt wsX0_bestWordAt) := goodIn_app (goodIn_of _ (by decide +kernel)) ggX0_noteCheapestWording_X0_bestWordAt
set_option maxRecDepth 20000 in
theorem ggX0_noteCheapestWording_X0_noteCheapestAt : GoodIn wsX0_noteCheapestWording wsX0_noteCheapestAt := goodIn_r _ [51, 52, 53, 54, 55, 56, 57, 58, 59, 60, 61, 62, 63, 64, 65, 66, 67, 68, 69, 70, 71] (by decide +kernel) (by decide +kernel)
set_option maxRecDepth 20000 in
theorem gX0_noteCheapestWording_X0_noteCheapestAt : GoodIn wsX0_noteCheapestWording (wsV RX0 187 RX0 yX0_noteCheapestAt wsX0_noteCheapestAt) := goodIn_app (goodIn_of _ (by decide +kernel)) ggX0_noteCheapestWording_X0_noteCheapestAt
theorem dX0_noteCheapestWording_0 : decode cX0_noteCheapestWording 0 = .ok (.aload_n 0, 1) := by decide +kernel
theorem dX0_noteCheapestWording_1 : decode cX0_noteCheapestWording 1 = .ok (.invokevirtual 141, 3) := by decide +kernel
theorem dX0_noteCheapestWording_4 : decode cX0_noteCheapestWording 4 = .ok (.aload_n 0, 1) := by decide +kernel
theorem dX0_noteCheapestWording_5 : decode cX0_noteCheapestWording 5 = .ok (.aload_n 0, 1) := by decide +kernel
theorem dX0_noteCheapestWording_6 : decode cX0_noteCheapestWording 6 = .ok (.getfield 51, 3) := by decide +kernel
theorem dX0_noteCheapestWording_9 : decode cX0_noteCheapestWording 9 = .ok (.invokevirtual 144, 3) := by decide +kernel
theorem dX0_noteCheapestWording_12 : decode cX0_noteCheapestWording 12 = .ok (.pop, 1) := by decide +kernel
theorem dX0_noteCheapestWording_13 : decode cX0_noteCheapestWording 13 = .ok (.iconst 0, 1) := by decide +kernel
theorem dX0_noteCheapestWording_14 : decode cX0_noteCheapestWording 14 = .ok (.istore_n 1, 1) := by decide +kernel
theorem dX0_noteCheapestWording_15 : decode cX0_noteCheapestWording 15 = .ok (.iload_n 1, 1) := by decide +kernel
theorem dX0_noteCheapestWording_16 : decode cX0_noteCheapestWording 16 = .ok (.aload_n 0, 1) := by decide +kernel
theorem dX0_noteCheapestWording_17 : decode cX0_noteCheapestWording 17 = .ok (.getfield 39, 3) := by decide +kernel
theorem dX0_noteCheapestWording_20 : decode cX0_noteCheapestWording 20 = .ok (.if_icmp .ge 83, 3) := by decide +kernel
theorem dX0_noteCheapestWording_23 : decode cX0_noteCheapestWording 23 = .ok (.aload_n 0, 1) := by decide +kernel
theorem dX0_noteCheapestWording_24 : decode cX0_noteCheapestWording 24 = .ok (.iload_n 1, 1) := by decide +kernel
theorem dX0_noteCheapestWording_25 : decode cX0_noteCheapestWording 25 = .ok (.invokevirtual 181, 3) := by decide +kernel
theorem dX0_noteCheapestWording_28 : decode cX0_noteCheapestWording 28 = .ok (.istore_n 2, 1) := by decide +kernel
theorem dX0_noteCheapestWording_29 : decode cX0_noteCheapestWording 29 = .ok (.iload_n 2, 1) := by decide +kernel
theorem dX0_noteCheapestWording_30 : decode cX0_noteCheapestWording 30 = .ok (.iconst (-1), 1) := by decide +kernel
theorem dX0_noteCheapestWording_31 : decode cX0_noteCheapestWording 31 = .ok (.if_icmp .eq 27, 3) := by decide +kernel
theorem dX0_noteCheapestWording_34 : decode cX0_noteCheapestWording 34 = .ok (.aload_n 0, 1) := by decide +kernel
theorem dX0_noteCheapestWording_35 : decode cX0_noteCheapestWording 35 = .ok (.getfield 48, 3) := by decide +kernel
theorem dX0_noteCheapestWording_38 : decode cX0_noteCheapestWording 38 = .ok (.iload_n 1, 1) := by decide +kernel
theorem dX0_noteCheapestWording_39 : decode cX0_noteCheapestWording 39 = .ok (.iaload, 1) := by decide +kernel
theorem dX0_noteCheapestWording_40 : decode cX0_noteCheapestWording 40 = .ok (.aload_n 0, 1) := by decide +kernel
theorem dX0_noteCheapestWording_41 : decode cX0_noteCheapestWording 41 = .ok (.getfield 57, 3) := by decide +kernel
theorem dX0_noteCheapestWording_44 : decode cX0_noteCheapestWording 44 = .ok (.iload_n 1, 1) := by decide +kernel
theorem dX0_noteCheapestWording_45 : decode cX0_noteCheapestWording 45 = .ok (.iconst 1, 1) := by decide +kernel
theorem dX0_noteCheapestWording_46 : decode cX0_noteCheapestWording 46 = .ok (.iadd, 1) := by decide +kernel
theorem dX0_noteCheapestWording_47 : decode cX0_noteCheapestWording 47 = .ok (.iaload, 1) := by decide +kernel
theorem dX0_noteCheapestWording_48 : decode cX0_noteCheapestWording 48 = .ok (.iadd, 1) := by decide +kernel
theorem dX0_noteCheapestWording_49 : decode cX0_noteCheapestWording 49 = .ok (.aload_n 0, 1) := by decide +kernel
theorem dX0_noteCheapestWording_50 : decode cX0_noteCheapestWording 50 = .ok (.getfield 57, 3) := by decide +kernel
theorem dX0_noteCheapestWording_53 : decode cX0_noteCheapestWording 53 = .ok (.iload_n 1, 1) := by decide +kernel
theorem dX0_noteCheapestWording_54 : decode cX0_noteCheapestWording 54 = .ok (.iaload, 1) := by decide +kernel
theorem dX0_noteCheapestWording_55 : decode cX0_noteCheapestWording 55 = .ok (.if_icmp .ne 20, 3) := by decide +kernel
theorem dX0_noteCheapestWording_58 : decode cX0_noteCheapestWording 58 = .ok (.aload_n 0, 1) := by decide +kernel
theorem dX0_noteCheapestWording_59 : decode cX0_noteCheapestWording 59 = .ok (.iload_n 1, 1) := by decide +kernel
theorem dX0_noteCheapestWording_60 : decode cX0_noteCheapestWording 60 = .ok (.aload_n 0, 1) := by decide +kernel
theorem dX0_noteCheapestWording_61 : decode cX0_noteCheapestWording 61 = .ok (.iload_n 1, 1) := by decide +kernel
theorem dX0_noteCheapestWording_62 : decode cX0_noteCheapestWording 62 = .ok (.invokevirtual 178, 3) := by decide +kernel
theorem dX0_noteCheapestWording_65 : decode cX0_noteCheapestWording 65 = .ok (.iconst 0, 1) := by decide +kernel
theorem dX0_noteCheapestWording_66 : decode cX0_noteCheapestWording 66 = .ok (.invokevirtual 187, 3) := by decide +kernel
theorem dX0_noteCheapestWording_69 : decode cX0_noteCheapestWording 69 = .ok (.iinc 1 1, 3) := by decide +kernel
theorem dX0_noteCheapestWording_72 : decode cX0_noteCheapestWording 72 = .ok (.goto 28, 3) := by decide +kernel
theorem dX0_noteCheapestWording_75 : decode cX0_noteCheapestWording 75 = .ok (.aload_n 0, 1) := by decide +kernel
theorem dX0_noteCheapestWording_76 : decode cX0_noteCheapestWording 76 = .ok (.iload_n 1, 1) := by decide +kernel
theorem dX0_noteCheapestWording_77 : decode cX0_noteCheapestWording 77 = .ok (.iload_n 2, 1) := by decide +kernel
theorem dX0_noteCheapestWording_78 : decode cX0_noteCheapestWording 78 = .ok (.bipush 100, 2) := by decide +kernel
theorem dX0_noteCheapestWording_80 : decode cX0_noteCheapestWording 80 = .ok (.idiv, 1) := by decide +kernel
theorem dX0_noteCheapestWording_81 : decode cX0_noteCheapestWording 81 = .ok (.iconst 1, 1) := by decide +kernel
theorem dX0_noteCheapestWording_82 : decode cX0_noteCheapestWording 82 = .ok (.invokevirtual 187, 3) := by decide +kernel
theorem dX0_noteCheapestWording_85 : decode cX0_noteCheapestWording 85 = .ok (.aload_n 0, 1) := by decide +kernel
theorem dX0_noteCheapestWording_86 : decode cX0_noteCheapestWording 86 = .ok (.iload_n 1, 1) := by decide +kernel
theorem dX0_noteCheapestWording_87 : decode cX0_noteCheapestWording 87 = .ok (.iconst 1, 1) := by decide +kernel
theorem dX0_noteCheapestWording_88 : decode cX0_noteCheapestWording 88 = .ok (.iadd, 1) := by decide +kernel
theorem dX0_noteCheapestWording_89 : decode cX0_noteCheapestWording 89 = .ok (.iload_n 2, 1) := by decide +kernel
theorem dX0_noteCheapestWording_90 : decode cX0_noteCheapestWording 90 = .ok (.bipush 100, 2) := by decide +kernel
theorem dX0_noteCheapestWording_92 : decode cX0_noteCheapestWording 92 = .ok (.irem, 1) := by decide +kernel
theorem dX0_noteCheapestWording_93 : decode cX0_noteCheapestWording 93 = .ok (.iconst 0, 1) := by decide +kernel
theorem dX0_noteCheapestWording_94 : decode cX0_noteCheapestWording 94 = .ok (.invokevirtual 187, 3) := by decide +kernel
theorem dX0_noteCheapestWording_97 : decode cX0_noteCheapestWording 97 = .ok (.iinc 1 2, 3) := by decide +kernel
theorem dX0_noteCheapestWording_100 : decode cX0_noteCheapestWording 100 = .ok (.goto (-85), 3) := by decide +kernel
theorem dX0_noteCheapestWording_103 : decode cX0_noteCheapestWording 103 = .ok (.return_, 1) := by decide +kernel
theorem dX0_noteCheapestAt_0 : decode cX0_noteCheapestAt 0 = .ok (.aload_n 0, 1) := by decide +kernel
theorem dX0_noteCheapestAt_1 : decode cX0_noteCheapestAt 1 = .ok (.getfield 60, 3) := by decide +kernel
theorem dX0_noteCheapestAt_4 : decode cX0_noteCheapestAt 4 = .ok (.iload_n 1, 1) := by decide +kernel
theorem dX0_noteCheapestAt_5 : decode cX0_noteCheapestAt 5 = .ok (.iload_n 2, 1) := by decide +kernel
theorem dX0_noteCheapestAt_6 : decode cX0_noteCheapestAt 6 = .ok (.iastore, 1) := by decide +kernel
theorem dX0_noteCheapestAt_7 : decode cX0_noteCheapestAt 7 = .ok (.aload_n 0, 1) := by decide +kernel
theorem dX0_noteCheapestAt_8 : decode cX0_noteCheapestAt 8 = .ok (.getfield 63, 3) := by decide +kernel
theorem dX0_noteCheapestAt_11 : decode cX0_noteCheapestAt 11 = .ok (.iload_n 1, 1) := by decide +kernel
theorem dX0_noteCheapestAt_12 : decode cX0_noteCheapestAt 12 = .ok (.iload_n 3, 1) := by decide +kernel
theorem dX0_noteCheapestAt_13 : decode cX0_noteCheapestAt 13 = .ok (.bastore, 1) := by decide +kernel
theorem dX0_noteCheapestAt_14 : decode cX0_noteCheapestAt 14 = .ok (.return_, 1) := by decide +kernel
theorem dJ6_bitCount_0f7a4_0 : decode cJ6_bitCount_0f7a4 0 = .ok (.iload_n 0, 1) := by decide +kernel
theorem dJ6_bitCount_0f7a4_1 : decode cJ6_bitCount_0f7a4 1 = .ok (.iload_n 0, 1) := by decide +kernel
theorem dJ6_bitCount_0f7a4_2 : decode cJ6_bitCount_0f7a4 2 = .ok (.iconst 1, 1) := by decide +kernel
theorem dJ6_bitCount_0f7a4_3 : decode cJ6_bitCount_0f7a4 3 = .ok (.iushr, 1) := by decide +kernel
theorem dJ6_bitCount_0f7a4_4 : decode cJ6_bitCount_0f7a4 4 = .ok (.ldc_w 265, 3) := by decide +kernel
theorem dJ6_bitCount_0f7a4_7 : decode cJ6_bitCount_0f7a4 7 = .ok (.iand, 1) := by decide +kernel
theorem dJ6_bitCount_0f7a4_8 : decode cJ6_bitCount_0f7a4 8 = .ok (.isub, 1) := by decide +kernel
theorem dJ6_bitCount_0f7a4_9 : decode cJ6_bitCount_0f7a4 9 = .ok (.istore_n 0, 1) := by decide +kernel
theorem dJ6_bitCount_0f7a4_10 : decode cJ6_bitCount_0f7a4 10 = .ok (.iload_n 0, 1) := by decide +kernel
theorem dJ6_bitCount_0f7a4_11 : decode cJ6_bitCount_0f7a4 11 = .ok (.ldc_w 266, 3) := by decide +kernel
theorem dJ6_bitCount_0f7a4_14 : decode cJ6_bitCount_0f7a4 14 = .ok (.iand, 1) := by decide +kernel
theorem dJ6_bitCount_0f7a4_15 : decode cJ6_bitCount_0f7a4 15 = .ok (.iload_n 0, 1) := by decide +kernel
theorem dJ6_bitCount_0f7a4_16 : decode cJ6_bitCount_0f7a4 16 = .ok (.iconst 2, 1) := by decide +kernel
theorem dJ6_bitCount_0f7a4_17 : decode cJ6_bitCount_0f7a4 17 = .ok (.iushr, 1) := by decide +kernel
theorem dJ6_bitCount_0f7a4_18 : decode cJ6_bitCount_0f7a4 18 = .ok (.ldc_w 266, 3) := by decide +kernel
theorem dJ6_bitCount_0f7a4_21 : decode cJ6_bitCount_0f7a4 21 = .ok (.iand, 1) := by decide +kernel
theorem dJ6_bitCount_0f7a4_22 : decode cJ6_bitCount_0f7a4 22 = .ok (.iadd, 1) := by decide +kernel
theorem dJ6_bitCount_0f7a4_23 : decode cJ6_bitCount_0f7a4 23 = .ok (.istore_n 0, 1) := by decide +kernel
theorem dJ6_bitCount_0f7a4_24 : decode cJ6_bitCount_0f7a4 24 = .ok (.iload_n 0, 1) := by decide +kernel
theorem dJ6_bitCount_0f7a4_25 : decode cJ6_bitCount_0f7a4 25 = .ok (.iload_n 0, 1) := by decide +kernel
theorem dJ6_bitCount_0f7a4_26 : decode cJ6_bitCount_0f7a4 26 = .ok (.iconst 4, 1) := by decide +kernel
theorem dJ6_bitCount_0f7a4_27 : decode cJ6_bitCount_0f7a4 27 = .ok (.iushr, 1) := by decide +kernel
theorem dJ6_bitCount_0f7a4_28 : decode cJ6_bitCount_0f7a4 28 = .ok (.iadd, 1) := by decide +kernel
theorem dJ6_bitCount_0f7a4_29 : decode cJ6_bitCount_0f7a4 29 = .ok (.ldc_w 267, 3) := by decide +kernel
theorem dJ6_bitCount_0f7a4_32 : decode cJ6_bitCount_0f7a4 32 = .ok (.iand, 1) := by decide +kernel
theorem dJ6_bitCount_0f7a4_33 : decode cJ6_bitCount_0f7a4 33 = .ok (.istore_n 0, 1) := by decide +kernel
theorem dJ6_bitCount_0f7a4_34 : decode cJ6_bitCount_0f7a4 34 = .ok (.iload_n 0, 1) := by decide +kernel
theorem dJ6_bitCount_0f7a4_35 : decode cJ6_bitCount_0f7a4 35 = .ok (.iload_n 0, 1) := by decide +kernel
theorem dJ6_bitCount_0f7a4_36 : decode cJ6_bitCount_0f7a4 36 = .ok (.bipush 8, 2) := by decide +kernel
theorem dJ6_bitCount_0f7a4_38 : decode cJ6_bitCount_0f7a4 38 = .ok (.iushr, 1) := by decide +kernel
theorem dJ6_bitCount_0f7a4_39 : decode cJ6_bitCount_0f7a4 39 = .ok (.iadd, 1) := by decide +kernel
theorem dJ6_bitCount_0f7a4_40 : decode cJ6_bitCount_0f7a4 40 = .ok (.istore_n 0, 1) := by decide +kernel
theorem dJ6_bitCount_0f7a4_41 : decode cJ6_bitCount_0f7a4 41 = .ok (.iload_n 0, 1) := by decide +kernel
theorem dJ6_bitCount_0f7a4_42 : decode cJ6_bitCount_0f7a4 42 = .ok (.iload_n 0, 1) := by decide +kernel
theorem dJ6_bitCount_0f7a4_43 : decode cJ6_bitCount_0f7a4 43 = .ok (.bipush 16, 2) := by decide +kernel
theorem dJ6_bitCount_0f7a4_45 : decode cJ6_bitCount_0f7a4 45 = .ok (.iushr, 1) := by decide +kernel
theorem dJ6_bitCount_0f7a4_46 : decode cJ6_bitCount_0f7a4 46 = .ok (.iadd, 1) := by decide +kernel
theorem dJ6_bitCount_0f7a4_47 : decode cJ6_bitCount_0f7a4 47 = .ok (.istore_n 0, 1) := by decide +kernel
theorem dJ6_bitCount_0f7a4_48 : decode cJ6_bitCount_0f7a4 48 = .ok (.iload_n 0, 1) := by decide +kernel
theorem dJ6_bitCount_0f7a4_49 : decode cJ6_bitCount_0f7a4 49 = .ok (.bipush 63, 2) := by decide +kernel
theorem dJ6_bitCount_0f7a4_51 : decode cJ6_bitCount_0f7a4 51 = .ok (.iand, 1) := by decide +kernel
theorem dJ6_bitCount_0f7a4_52 : decode cJ6_bitCount_0f7a4 52 = .ok (.ireturn, 1) := by decide +kernel
theorem dJ9_max_7cf53_0 : decode cJ9_max_7cf53 0 = .ok (.iload_n 0, 1) := by decide +kernel
theorem dJ9_max_7cf53_1 : decode cJ9_max_7cf53 1 = .ok (.iload_n 1, 1) := by decide +kernel
theorem dJ9_max_7cf53_2 : decode cJ9_max_7cf53 2 = .ok (.if_icmp .lt 7, 3) := by decide +kernel
theorem dJ9_max_7cf53_5 : decode cJ9_max_7cf53 5 = .ok (.iload_n 0, 1) := by decide +kernel
theorem dJ9_max_7cf53_6 : decode cJ9_max_7cf53 6 = .ok (.goto 4, 3) := by decide +kernel
theorem dJ9_max_7cf53_9 : decode cJ9_max_7cf53 9 = .ok (.iload_n 1, 1) := by decide +kernel
theorem dJ9_max_7cf53_10 : decode cJ9_max_7cf53 10 = .ok (.ireturn, 1) := by decide +kernel
theorem dJ9_min_7cf53_0 : decode cJ9_min_7cf53 0 = .ok (.iload_n 0, 1) := by decide +kernel
theorem dJ9_min_7cf53_1 : decode cJ9_min_7cf53 1 = .ok (.iload_n 1, 1) := by decide +kernel
theorem dJ9_min_7cf53_2 : decode cJ9_min_7cf53 2 = .ok (.if_icmp .gt 7, 3) := by decide +kernel
theorem dJ9_min_7cf53_5 : decode cJ9_min_7cf53 5 = .ok (.iload_n 0, 1) := by decide +kernel
theorem dJ9_min_7cf53_6 : decode cJ9_min_7cf53 6 = .ok (.goto 4, 3) := by decide +kernel
theorem dJ9_min_7cf53_9 : decode cJ9_min_7cf53 9 = .ok (.iload_n 1, 1) := by decide +kernel
theorem dJ9_min_7cf53_10 : decode cJ9_min_7cf53 10 = .ok (.ireturn, 1) := by decide +kernel
theorem dJ9_min_f86c9_0 : decode cJ9_min_f86c9 0 = .ok (.lload_n 0, 1) := by decide +kernel
theorem dJ9_min_f86c9_1 : decode cJ9_min_f86c9 1 = .ok (.lload_n 2, 1) := by decide +kernel
theorem dJ9_min_f86c9_2 : decode cJ9_min_f86c9 2 = .ok (.lcmp, 1) := by decide +kernel
theorem dJ9_min_f86c9_3 : decode cJ9_min_f86c9 3 = .ok (.ifCond .gt 7, 3) := by decide +kernel
theorem dJ9_min_f86c9_6 : decode cJ9_min_f86c9 6 = .ok (.lload_n 0, 1) := by decide +kernel
theorem dJ9_min_f86c9_7 : decode cJ9_min_f86c9 7 = .ok (.goto 4, 3) := by decide +kernel
theorem dJ9_min_f86c9_10 : decode cJ9_min_f86c9 10 = .ok (.lload_n 2, 1) := by decide +kernel
theorem dJ9_min_f86c9_11 : decode cJ9_min_f86c9 11 = .ok (.lreturn, 1) := by decide +kernel
