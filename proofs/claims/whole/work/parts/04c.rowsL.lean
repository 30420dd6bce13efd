set_option maxRecDepth 20000 in
theorem ggL_addWord_X0_addWord : GoodIn wsL_addWord wsX0_addWord := goodIn_ca (goodIn_ca (goodIn_r _ [7, 8, 9, 10, 11, 12, 13, 14, 15, 16, 17, 18, 19, 20, 21, 22, 23, 24, 25, 26, 27, 28, 29, 30, 31, 32, 33] (by decide +kernel) (by decide +kernel)) (goodIn_sub (fun _ h => List.mem_cons_of_mem _ (List.mem_append_left _ (List.mem_append_right _ h))) (by decide +kernel))) (goodIn_sub (fun _ h => List.mem_cons_of_mem _ (List.mem_append_right _ h)) (by decide +kernel))
set_option maxRecDepth 20000 in
theorem gL_addWord_X0_addWord : GoodIn wsL_addWord (wsV RL 7 RX0 yX0_addWord wsX0_addWord) := goodIn_app (goodIn_of _ (by decide +kernel)) ggL_addWord_X0_addWord
theorem dL_addWord_0 : decode cL_addWord 0 = .ok (.aload_n 2, 1) := by decide +kernel
theorem dL_addWord_1 : decode cL_addWord 1 = .ok (.iconst 0, 1) := by decide +kernel
theorem dL_addWord_2 : decode cL_addWord 2 = .ok (.aload_n 0, 1) := by decide +kernel
theorem dL_addWord_3 : decode cL_addWord 3 = .ok (.iload_n 1, 1) := by decide +kernel
theorem dL_addWord_4 : decode cL_addWord 4 = .ok (.invokevirtual 7, 3) := by decide +kernel
theorem dL_addWord_7 : decode cL_addWord 7 = .ok (.i2l, 1) := by decide +kernel
theorem dL_addWord_8 : decode cL_addWord 8 = .ok (.lastore, 1) := by decide +kernel
theorem dL_addWord_9 : decode cL_addWord 9 = .ok (.goto 9, 3) := by decide +kernel
theorem dL_addWord_12 : decode cL_addWord 12 = .ok (.astore_n 3, 1) := by decide +kernel
theorem dL_addWord_13 : decode cL_addWord 13 = .ok (.iconst 1, 1) := by decide +kernel
theorem dL_addWord_14 : decode cL_addWord 14 = .ok (.ireturn, 1) := by decide +kernel
theorem dL_addWord_15 : decode cL_addWord 15 = .ok (.astore_n 3, 1) := by decide +kernel
theorem dL_addWord_16 : decode cL_addWord 16 = .ok (.iconst 2, 1) := by decide +kernel
theorem dL_addWord_17 : decode cL_addWord 17 = .ok (.ireturn, 1) := by decide +kernel
theorem dL_addWord_18 : decode cL_addWord 18 = .ok (.iconst 0, 1) := by decide +kernel
theorem dL_addWord_19 : decode cL_addWord 19 = .ok (.ireturn, 1) := by decide +kernel
set_option maxRecDepth 20000 in
theorem ggL_turnStandIn_X0_turnStandIn : GoodIn wsL_turnStandIn wsX0_turnStandIn := goodIn_ca (goodIn_ca (goodIn_r _ [7, 8, 9, 10, 11, 12, 13, 6, 14, 15, 16, 17, 18, 19, 20, 21, 22, 23, 24, 25, 26, 27, 28, 29, 30, 31, 32, 33, 34, 35, 36, 37, 38] (by decide +kernel) (by decide +kernel)) (goodIn_sub (fun _ h => List.mem_cons_of_mem _ (List.mem_append_left _ (List.mem_append_right _ h))) (by decide +kernel))) (goodIn_sub (fun _ h => List.mem_cons_of_mem _ (List.mem_append_right _ h)) (by decide +kernel))
set_option maxRecDepth 20000 in
theorem gL_turnStandIn_X0_turnStandIn : GoodIn wsL_turnStandIn (wsV RL 17 RX0 yX0_turnStandIn wsX0_turnStandIn) := goodIn_app (goodIn_of _ (by decide +kernel)) ggL_turnStandIn_X0_turnStandIn
theorem dL_turnStandIn_0 : decode cL_turnStandIn 0 = .ok (.aload_n 3, 1) := by decide +kernel
theorem dL_turnStandIn_1 : decode cL_turnStandIn 1 = .ok (.iconst 0, 1) := by decide +kernel
theorem dL_turnStandIn_2 : decode cL_turnStandIn 2 = .ok (.aload_n 0, 1) := by decide +kernel
theorem dL_turnStandIn_3 : decode cL_turnStandIn 3 = .ok (.iload_n 1, 1) := by decide +kernel
theorem dL_turnStandIn_4 : decode cL_turnStandIn 4 = .ok (.iload_n 2, 1) := by decide +kernel
theorem dL_turnStandIn_5 : decode cL_turnStandIn 5 = .ok (.invokevirtual 17, 3) := by decide +kernel
theorem dL_turnStandIn_8 : decode cL_turnStandIn 8 = .ok (.ifCond .eq 7, 3) := by decide +kernel
theorem dL_turnStandIn_11 : decode cL_turnStandIn 11 = .ok (.lconst 1, 1) := by decide +kernel
theorem dL_turnStandIn_12 : decode cL_turnStandIn 12 = .ok (.goto 4, 3) := by decide +kernel
theorem dL_turnStandIn_15 : decode cL_turnStandIn 15 = .ok (.lconst 0, 1) := by decide +kernel
theorem dL_turnStandIn_16 : decode cL_turnStandIn 16 = .ok (.lastore, 1) := by decide +kernel
theorem dL_turnStandIn_17 : decode cL_turnStandIn 17 = .ok (.goto 11, 3) := by decide +kernel
theorem dL_turnStandIn_20 : decode cL_turnStandIn 20 = .ok (.astore 4, 2) := by decide +kernel
theorem dL_turnStandIn_22 : decode cL_turnStandIn 22 = .ok (.iconst 1, 1) := by decide +kernel
theorem dL_turnStandIn_23 : decode cL_turnStandIn 23 = .ok (.ireturn, 1) := by decide +kernel
theorem dL_turnStandIn_24 : decode cL_turnStandIn 24 = .ok (.astore 4, 2) := by decide +kernel
theorem dL_turnStandIn_26 : decode cL_turnStandIn 26 = .ok (.iconst 2, 1) := by decide +kernel
theorem dL_turnStandIn_27 : decode cL_turnStandIn 27 = .ok (.ireturn, 1) := by decide +kernel
theorem dL_turnStandIn_28 : decode cL_turnStandIn 28 = .ok (.iconst 0, 1) := by decide +kernel
theorem dL_turnStandIn_29 : decode cL_turnStandIn 29 = .ok (.ireturn, 1) := by decide +kernel
set_option maxRecDepth 20000 in
theorem ggL_turnJoin_X0_turnJoin : GoodIn wsL_turnJoin wsX0_turnJoin := goodIn_ca (goodIn_r _ [6, 7, 8, 9, 10, 5, 11, 12, 13, 14, 15, 16, 17, 18, 19, 20, 21, 22, 23, 24, 25, 26, 27, 28, 29, 30, 31, 32, 33, 34, 35] (by decide +kernel) (by decide +kernel)) (goodIn_sub (fun _ h => List.mem_cons_of_mem _ (List.mem_append_right _ h)) (by decide +kernel))
set_option maxRecDepth 20000 in
theorem gL_turnJoin_X0_turnJoin : GoodIn wsL_turnJoin (wsV RL 23 RX0 yX0_turnJoin wsX0_turnJoin) := goodIn_app (goodIn_of _ (by decide +kernel)) ggL_turnJoin_X0_turnJoin
theorem dL_turnJoin_0 : decode cL_turnJoin 0 = .ok (.aload_n 3, 1) := by decide +kernel
theorem dL_turnJoin_1 : decode cL_turnJoin 1 = .ok (.iconst 0, 1) := by decide +kernel
theorem dL_turnJoin_2 : decode cL_turnJoin 2 = .ok (.aload_n 0, 1) := by decide +kernel
theorem dL_turnJoin_3 : decode cL_turnJoin 3 = .ok (.iload_n 1, 1) := by decide +kernel
theorem dL_turnJoin_4 : decode cL_turnJoin 4 = .ok (.iload_n 2, 1) := by decide +kernel
theorem dL_turnJoin_5 : decode cL_turnJoin 5 = .ok (.invokevirtual 23, 3) := by decide +kernel
theorem dL_turnJoin_8 : decode cL_turnJoin 8 = .ok (.ifCond .eq 7, 3) := by decide +kernel
theorem dL_turnJoin_11 : decode cL_turnJoin 11 = .ok (.lconst 1, 1) := by decide +kernel
theorem dL_turnJoin_12 : decode cL_turnJoin 12 = .ok (.goto 4, 3) := by decide +kernel
theorem dL_turnJoin_15 : decode cL_turnJoin 15 = .ok (.lconst 0, 1) := by decide +kernel
theorem dL_turnJoin_16 : decode cL_turnJoin 16 = .ok (.lastore, 1) := by decide +kernel
theorem dL_turnJoin_17 : decode cL_turnJoin 17 = .ok (.goto 7, 3) := by decide +kernel
theorem dL_turnJoin_20 : decode cL_turnJoin 20 = .ok (.astore 4, 2) := by decide +kernel
theorem dL_turnJoin_22 : decode cL_turnJoin 22 = .ok (.iconst 1, 1) := by decide +kernel
theorem dL_turnJoin_23 : decode cL_turnJoin 23 = .ok (.ireturn, 1) := by decide +kernel
theorem dL_turnJoin_24 : decode cL_turnJoin 24 = .ok (.iconst 0, 1) := by decide +kernel
theorem dL_turnJoin_25 : decode cL_turnJoin 25 = .ok (.ireturn, 1) := by decide +kernel
set_option maxRecDepth 20000 in
theorem ggL_setLimit_X0_setLimit : GoodIn wsL_setLimit wsX0_setLimit := goodIn_ca (goodIn_r _ [6, 7, 8, 9, 10, 11, 12, 13, 14, 15, 16, 17, 18, 19, 20, 21, 22, 23, 24, 25, 26, 27] (by decide +kernel) (by decide +kernel)) (goodIn_sub (fun _ h => List.mem_cons_of_mem _ (List.mem_append_right _ h)) (by decide +kernel))
set_option maxRecDepth 20000 in
theorem gL_setLimit_X0_setLimit : GoodIn wsL_setLimit (wsV RL 26 RX0 yX0_setLimit wsX0_setLimit) := goodIn_app (goodIn_of _ (by decide +kernel)) ggL_setLimit_X0_setLimit
theorem dL_setLimit_0 : decode cL_setLimit 0 = .ok (.aload_n 2, 1) := by decide +kernel
theorem dL_setLimit_1 : decode cL_setLimit 1 = .ok (.iconst 0, 1) := by decide +kernel
theorem dL_setLimit_2 : decode cL_setLimit 2 = .ok (.aload_n 0, 1) := by decide +kernel
theorem dL_setLimit_3 : decode cL_setLimit 3 = .ok (.iload_n 1, 1) := by decide +kernel
theorem dL_setLimit_4 : decode cL_setLimit 4 = .ok (.invokevirtual 26, 3) := by decide +kernel
theorem dL_setLimit_7 : decode cL_setLimit 7 = .ok (.i2l, 1) := by decide +kernel
theorem dL_setLimit_8 : decode cL_setLimit 8 = .ok (.lastore, 1) := by decide +kernel
theorem dL_setLimit_9 : decode cL_setLimit 9 = .ok (.goto 6, 3) := by decide +kernel
theorem dL_setLimit_12 : decode cL_setLimit 12 = .ok (.astore_n 3, 1) := by decide +kernel
theorem dL_setLimit_13 : decode cL_setLimit 13 = .ok (.iconst 1, 1) := by decide +kernel
theorem dL_setLimit_14 : decode cL_setLimit 14 = .ok (.ireturn, 1) := by decide +kernel
theorem dL_setLimit_15 : decode cL_setLimit 15 = .ok (.iconst 0, 1) := by decide +kernel
theorem dL_setLimit_16 : decode cL_setLimit 16 = .ok (.ireturn, 1) := by decide +kernel
set_option maxRecDepth 20000 in
theorem ggL_setLeastCount_X0_setLeastCount : GoodIn wsL_setLeastCount wsX0_setLeastCount := goodIn_ca (goodIn_r _ [6, 7, 8, 9, 10, 11, 12, 13, 14, 15, 16, 17, 18, 19, 20, 21, 22, 23, 24, 25, 26, 27] (by decide +kernel) (by decide +kernel)) (goodIn_sub (fun _ h => List.mem_cons_of_mem _ (List.mem_append_right _ h)) (by decide +kernel))
set_option maxRecDepth 20000 in
theorem gL_setLeastCount_X0_setLeastCount : GoodIn wsL_setLeastCount (wsV RL 29 RX0 yX0_setLeastCount wsX0_setLeastCount) := goodIn_app (goodIn_of _ (by decide +kernel)) ggL_setLeastCount_X0_setLeastCount
theorem dL_setLeastCount_0 : decode cL_setLeastCount 0 = .ok (.aload_n 2, 1) := by decide +kernel
theorem dL_setLeastCount_1 : decode cL_setLeastCount 1 = .ok (.iconst 0, 1) := by decide +kernel
theorem dL_setLeastCount_2 : decode cL_setLeastCount 2 = .ok (.aload_n 0, 1) := by decide +kernel
theorem dL_setLeastCount_3 : decode cL_setLeastCount 3 = .ok (.iload_n 1, 1) := by decide +kernel
theorem dL_setLeastCount_4 : decode cL_setLeastCount 4 = .ok (.invokevirtual 29, 3) := by decide +kernel
theorem dL_setLeastCount_7 : decode cL_setLeastCount 7 = .ok (.i2l, 1) := by decide +kernel
theorem dL_setLeastCount_8 : decode cL_setLeastCount 8 = .ok (.lastore, 1) := by decide +kernel
theorem dL_setLeastCount_9 : decode cL_setLeastCount 9 = .ok (.goto 6, 3) := by decide +kernel
theorem dL_setLeastCount_12 : decode cL_setLeastCount 12 = .ok (.astore_n 3, 1) := by decide +kernel
theorem dL_setLeastCount_13 : decode cL_setLeastCount 13 = .ok (.iconst 1, 1) := by decide +kernel
theorem dL_setLeastCount_14 : decode cL_setLeastCount 14 = .ok (.ireturn, 1) := by decide +kernel
theorem dL_setLeastCount_15 : decode cL_setLeastCount 15 = .ok (.iconst 0, 1) := by decide +kernel
theorem dL_setLeastCount_16 : decode cL_setLeastCount 16 = .ok (.ireturn, 1) := by decide +kernel
set_option maxRecDepth 20000 in
theorem ggL_setCoins_X0_setCoins : GoodIn wsL_setCoins wsX0_setCoins := goodIn_ca (goodIn_r _ [6, 7, 8, 9, 10, 11, 12, 13, 14, 15, 16, 17, 18, 19, 20, 21, 22, 23, 24, 25, 26, 27] (by decide +kernel) (by decide +kernel)) (goodIn_sub (fun _ h => List.mem_cons_of_mem _ (List.mem_append_right _ h)) (by decide +kernel))
set_option maxRecDepth 20000 in
theorem gL_setCoins_X0_setCoins : GoodIn wsL_setCoins (wsV RL 32 RX0 yX0_setCoins wsX0_setCoins) := goodIn_app (goodIn_of _ (by decide +kernel)) ggL_setCoins_X0_setCoins
theorem dL_setCoins_0 : decode cL_setCoins 0 = .ok (.aload_n 2, 1) := by decide +kernel
theorem dL_setCoins_1 : decode cL_setCoins 1 = .ok (.iconst 0, 1) := by decide +kernel
theorem dL_setCoins_2 : decode cL_setCoins 2 = .ok (.aload_n 0, 1) := by decide +kernel
theorem dL_setCoins_3 : decode cL_setCoins 3 = .ok (.iload_n 1, 1) := by decide +kernel
theorem dL_setCoins_4 : decode cL_setCoins 4 = .ok (.invokevirtual 32, 3) := by decide +kernel
theorem dL_setCoins_7 : decode cL_setCoins 7 = .ok (.i2l, 1) := by decide +kernel
theorem dL_setCoins_8 : decode cL_setCoins 8 = .ok (.lastore, 1) := by decide +kernel
theorem dL_setCoins_9 : decode cL_setCoins 9 = .ok (.goto 6, 3) := by decide +kernel
theorem dL_setCoins_12 : decode cL_setCoins 12 = .ok (.astore_n 3, 1) := by decide +kernel
theorem dL_setCoins_13 : decode cL_setCoins 13 = .ok (.iconst 1, 1) := by decide +kernel
theorem dL_setCoins_14 : decode cL_setCoins 14 = .ok (.ireturn, 1) := by decide +kernel
theorem dL_setCoins_15 : decode cL_setCoins 15 = .ok (.iconst 0, 1) := by decide +kernel
theorem dL_setCoins_16 : decode cL_setCoins 16 = .ok (.ireturn, 1) := by decide +kernel
set_option maxRecDepth 20000 in
theorem ggL_write_X0_write : GoodIn wsL_write wsX0_write := goodIn_ca (goodIn_ca (goodIn_r _ [7, 8, 9, 10, 11, 12, 13, 14, 15, 6, 16, 17, 18, 19, 20, 21, 22, 23, 24, 25, 26, 27, 28, 29, 30, 31, 32, 33, 34, 35, 36, 37] (by decide +kernel) (by decide +kernel)) (goodIn_sub (fun _ h => List.mem_cons_of_mem _ (List.mem_append_left _ (List.mem_append_right _ h))) (by decide +kernel))) (goodIn_sub (fun _ h => List.mem_cons_of_mem _ (List.mem_append_right _ h)) (by decide +kernel))
set_option maxRecDepth 20000 in
theorem gL_write_X0_write : GoodIn wsL_write (wsV RL 35 RX0 yX0_write wsX0_write) := goodIn_app (goodIn_of _ (by decide +kernel)) ggL_write_X0_write
theorem dL_write_0 : decode cL_write 0 = .ok (.aload_n 2, 1) := by decide +kernel
theorem dL_write_1 : decode cL_write 1 = .ok (.iconst 0, 1) := by decide +kernel
theorem dL_write_2 : decode cL_write 2 = .ok (.aload_n 0, 1) := by decide +kernel
theorem dL_write_3 : decode cL_write 3 = .ok (.iload_n 1, 1) := by decide +kernel
theorem dL_write_4 : decode cL_write 4 = .ok (.invokevirtual 35, 3) := by decide +kernel
theorem dL_write_7 : decode cL_write 7 = .ok (.i2l, 1) := by decide +kernel
theorem dL_write_8 : decode cL_write 8 = .ok (.lastore, 1) := by decide +kernel
theorem dL_write_9 : decode cL_write 9 = .ok (.goto 9, 3) := by decide +kernel
theorem dL_write_12 : decode cL_write 12 = .ok (.astore_n 3, 1) := by decide +kernel
theorem dL_write_13 : decode cL_write 13 = .ok (.iconst 1, 1) := by decide +kernel
theorem dL_write_14 : decode cL_write 14 = .ok (.ireturn, 1) := by decide +kernel
theorem dL_write_15 : decode cL_write 15 = .ok (.astore_n 3, 1) := by decide +kernel
theorem dL_write_16 : decode cL_write 16 = .ok (.iconst 2, 1) := by decide +kernel
theorem dL_write_17 : decode cL_write 17 = .ok (.ireturn, 1) := by decide +kernel
theorem dL_write_18 : decode cL_write 18 = .ok (.iconst 0, 1) := by decide +kernel
theorem dL_write_19 : decode cL_write 19 = .ok (.ireturn, 1) := by decide +kernel
set_option maxRecDepth 20000 in
theorem ggL_strike_X0_strike : GoodIn wsL_strike wsX0_strike := goodIn_ca (goodIn_r _ [6, 7, 8, 9, 10, 11, 12, 5, 13, 14, 15, 16, 17, 18, 19, 20, 21, 22, 23, 24, 25, 26, 27, 28, 29, 30, 31, 32, 33] (by decide +kernel) (by decide +kernel)) (goodIn_sub (fun _ h => List.mem_cons_of_mem _ (List.mem_append_right _ h)) (by decide +kernel))
set_option maxRecDepth 20000 in
theorem gL_strike_X0_strike : GoodIn wsL_strike (wsV RL 38 RX0 yX0_strike wsX0_strike) := goodIn_app (goodIn_of _ (by decide +kernel)) ggL_strike_X0_strike
theorem dL_strike_0 : decode cL_strike 0 = .ok (.aload_n 2, 1) := by decide +kernel
theorem dL_strike_1 : decode cL_strike 1 = .ok (.iconst 0, 1) := by decide +kernel
theorem dL_strike_2 : decode cL_strike 2 = .ok (.aload_n 0, 1) := by decide +kernel
theorem dL_strike_3 : decode cL_strike 3 = .ok (.iload_n 1, 1) := by decide +kernel
theorem dL_strike_4 : decode cL_strike 4 = .ok (.invokevirtual 38, 3) := by decide +kernel
theorem dL_strike_7 : decode cL_strike 7 = .ok (.i2l, 1) := by decide +kernel
theorem dL_strike_8 : decode cL_strike 8 = .ok (.lastore, 1) := by decide +kernel
theorem dL_strike_9 : decode cL_strike 9 = .ok (.goto 6, 3) := by decide +kernel
theorem dL_strike_12 : decode cL_strike 12 = .ok (.astore_n 3, 1) := by decide +kernel
theorem dL_strike_13 : decode cL_strike 13 = .ok (.iconst 1, 1) := by decide +kernel
theorem dL_strike_14 : decode cL_strike 14 = .ok (.ireturn, 1) := by decide +kernel
theorem dL_strike_15 : decode cL_strike 15 = .ok (.iconst 0, 1) := by decide +kernel
theorem dL_strike_16 : decode cL_strike 16 = .ok (.ireturn, 1) := by decide +kernel
set_option maxRecDepth 20000 in
theorem ggL_turnJoined_X0_turnJoined : GoodIn wsL_turnJoined wsX0_turnJoined := goodIn_ca (goodIn_ca (goodIn_r _ [7, 8, 9, 10, 11, 12, 13, 6, 14, 15, 16, 17, 18, 19, 20, 21, 22, 23, 24, 25, 26, 27, 28, 29, 30, 31, 32, 33, 34, 35, 36, 37, 38, 39, 40, 41, 42, 43, 44] (by decide +kernel) (by decide +kernel)) (goodIn_sub (fun _ h => List.mem_cons_of_mem _ (List.mem_append_left _ (List.mem_append_right _ h))) (by decide +kernel))) (goodIn_sub (fun _ h => List.mem_cons_of_mem _ (List.mem_append_right _ h)) (by decide +kernel))
set_option maxRecDepth 20000 in
theorem gL_turnJoined_X0_turnJoined : GoodIn wsL_turnJoined (wsV RL 41 RX0 yX0_turnJoined wsX0_turnJoined) := goodIn_app (goodIn_of _ (by decide +kernel)) ggL_turnJoined_X0_turnJoined
theorem dL_turnJoined_0 : decode cL_turnJoined 0 = .ok (.aload_n 2, 1) := by decide +kernel
theorem dL_turnJoined_1 : decode cL_turnJoined 1 = .ok (.iconst 0, 1) := by decide +kernel
theorem dL_turnJoined_2 : decode cL_turnJoined 2 = .ok (.aload_n 0, 1) := by decide +kernel
theorem dL_turnJoined_3 : decode cL_turnJoined 3 = .ok (.iload_n 1, 1) := by decide +kernel
theorem dL_turnJoined_4 : decode cL_turnJoined 4 = .ok (.invokevirtual 41, 3) := by decide +kernel
theorem dL_turnJoined_7 : decode cL_turnJoined 7 = .ok (.ifCond .eq 7, 3) := by decide +kernel
theorem dL_turnJoined_10 : decode cL_turnJoined 10 = .ok (.lconst 1, 1) := by decide +kernel
theorem dL_turnJoined_11 : decode cL_turnJoined 11 = .ok (.goto 4, 3) := by decide +kernel
theorem dL_turnJoined_14 : decode cL_turnJoined 14 = .ok (.lconst 0, 1) := by decide +kernel
theorem dL_turnJoined_15 : decode cL_turnJoined 15 = .ok (.lastore, 1) := by decide +kernel
theorem dL_turnJoined_16 : decode cL_turnJoined 16 = .ok (.goto 9, 3) := by decide +kernel
theorem dL_turnJoined_19 : decode cL_turnJoined 19 = .ok (.astore_n 3, 1) := by decide +kernel
theorem dL_turnJoined_20 : decode cL_turnJoined 20 = .ok (.iconst 1, 1) := by decide +kernel
theorem dL_turnJoined_21 : decode cL_turnJoined 21 = .ok (.ireturn, 1) := by decide +kernel
theorem dL_turnJoined_22 : decode cL_turnJoined 22 = .ok (.astore_n 3, 1) := by decide +kernel
theorem dL_turnJoined_23 : decode cL_turnJoined 23 = .ok (.iconst 2, 1) := by decide +kernel
theorem dL_turnJoined_24 : decode cL_turnJoined 24 = .ok (.ireturn, 1) := by decide +kernel
theorem dL_turnJoined_25 : decode cL_turnJoined 25 = .ok (.iconst 0, 1) := by decide +kernel
theorem dL_turnJoined_26 : decode cL_turnJoined 26 = .ok (.ireturn, 1) := by decide +kernel
set_option maxRecDepth 20000 in
theorem ggL_send_X0_send : GoodIn wsL_send wsX0_send := goodIn_ca (goodIn_ca (goodIn_r _ [7, 8, 9, 10, 11, 12, 13, 14, 15, 6, 16, 17, 18, 19, 20, 21, 22, 23, 24, 25, 26, 27, 28, 29, 30, 31, 32, 33, 34, 35, 36, 37, 38, 39, 40, 41, 42, 43, 44, 45, 46, 47, 48, 49, 50, 51, 52, 53, 54, 55, 56, 57, 58, 59, 60, 61, 62, 63, 64, 65, 66] (by decide +kernel) (by decide +kernel)) (goodIn_sub (fun _ h => List.mem_cons_of_mem _ (List.mem_append_left _ (List.mem_append_right _ h))) (by decide +kernel))) (goodIn_sub (fun _ h => List.mem_cons_of_mem _ (List.mem_append_right _ h)) (by decide +kernel))
set_option maxRecDepth 20000 in
theorem gL_send_X0_send : GoodIn wsL_send (wsV RL 45 RX0 yX0_send wsX0_send) := goodIn_app (goodIn_of _ (by decide +kernel)) ggL_send_X0_send
theorem dL_send_0 : decode cL_send 0 = .ok (.aload_n 2, 1) := by decide +kernel
theorem dL_send_1 : decode cL_send 1 = .ok (.iconst 0, 1) := by decide +kernel
theorem dL_send_2 : decode cL_send 2 = .ok (.aload_n 0, 1) := by decide +kernel
theorem dL_send_3 : decode cL_send 3 = .ok (.iload_n 1, 1) := by decide +kernel
theorem dL_send_4 : decode cL_send 4 = .ok (.invokevirtual 45, 3) := by decide +kernel
theorem dL_send_7 : decode cL_send 7 = .ok (.i2l, 1) := by decide +kernel
theorem dL_send_8 : decode cL_send 8 = .ok (.lastore, 1) := by decide +kernel
theorem dL_send_9 : decode cL_send 9 = .ok (.goto 9, 3) := by decide +kernel
theorem dL_send_12 : decode cL_send 12 = .ok (.astore_n 3, 1) := by decide +kernel
theorem dL_send_13 : decode cL_send 13 = .ok (.iconst 1, 1) := by decide +kernel
theorem dL_send_14 : decode cL_send 14 = .ok (.ireturn, 1) := by decide +kernel
theorem dL_send_15 : decode cL_send 15 = .ok (.astore_n 3, 1) := by decide +kernel
theorem dL_send_16 : decode cL_send 16 = .ok (.iconst 2, 1) := by decide +kernel
theorem dL_send_17 : decode cL_send 17 = .ok (.ireturn, 1) := by decide +kernel
theorem dL_send_18 : decode cL_send 18 = .ok (.iconst 0, 1) := by decide +kernel
theorem dL_send_19 : decode cL_send 19 = .ok (.ireturn, 1) := by decide +kernel
set_option maxRecDepth 20000 in
theorem ggL_lettersOf_X0_lettersOf : GoodIn wsL_lettersOf wsX0_lettersOf := goodIn_ca (goodIn_r _ [6, 7, 8, 9, 10, 5, 11, 12, 13, 14, 15, 16, 17, 18, 19, 20, 21, 22, 23, 24, 25, 26, 27, 28, 29, 30, 31, 32] (by decide +kernel) (by decide +kernel)) (goodIn_sub (fun _ h => List.mem_cons_of_mem _ (List.mem_append_right _ h)) (by decide +kernel))
set_option maxRecDepth 20000 in
theorem gL_lettersOf_X0_lettersOf : GoodIn wsL_lettersOf (wsV RL 48 RX0 yX0_lettersOf wsX0_lettersOf) := goodIn_app (goodIn_of _ (by decide +kernel)) ggL_lettersOf_X0_lettersOf
theorem dL_lettersOf_0 : decode cL_lettersOf 0 = .ok (.aload_n 2, 1) := by decide +kernel
theorem dL_lettersOf_1 : decode cL_lettersOf 1 = .ok (.iconst 0, 1) := by decide +kernel
theorem dL_lettersOf_2 : decode cL_lettersOf 2 = .ok (.aload_n 0, 1) := by decide +kernel
theorem dL_lettersOf_3 : decode cL_lettersOf 3 = .ok (.iload_n 1, 1) := by decide +kernel
theorem dL_lettersOf_4 : decode cL_lettersOf 4 = .ok (.invokevirtual 48, 3) := by decide +kernel
theorem dL_lettersOf_7 : decode cL_lettersOf 7 = .ok (.i2l, 1) := by decide +kernel
theorem dL_lettersOf_8 : decode cL_lettersOf 8 = .ok (.lastore, 1) := by decide +kernel
theorem dL_lettersOf_9 : decode cL_lettersOf 9 = .ok (.goto 6, 3) := by decide +kernel
theorem dL_lettersOf_12 : decode cL_lettersOf 12 = .ok (.astore_n 3, 1) := by decide +kernel
theorem dL_lettersOf_13 : decode cL_lettersOf 13 = .ok (.iconst 1, 1) := by decide +kernel
theorem dL_lettersOf_14 : decode cL_lettersOf 14 = .ok (.ireturn, 1) := by decide +kernel
theorem dL_lettersOf_15 : decode cL_lettersOf 15 = .ok (.iconst 0, 1) := by decide +kernel
theorem dL_lettersOf_16 : decode cL_lettersOf 16 = .ok (.ireturn, 1) := by decide +kernel
set_option maxRecDepth 20000 in
theorem ggL_countOf_X0_countOf : GoodIn wsL_countOf wsX0_countOf := goodIn_ca (goodIn_r _ [6, 7, 8, 9, 10, 5, 11, 12, 13, 14, 15, 16, 17, 18, 19, 20, 21, 22, 23, 24, 25, 26, 27, 28, 29, 30, 31, 32, 33, 34, 35, 36, 37] (by decide +kernel) (by decide +kernel)) (goodIn_sub (fun _ h => List.mem_cons_of_mem _ (List.mem_append_right _ h)) (by decide +kernel))
set_option maxRecDepth 20000 in
theorem gL_countOf_X0_countOf : GoodIn wsL_countOf (wsV RL 51 RX0 yX0_countOf wsX0_countOf) := goodIn_app (goodIn_of _ (by decide +kernel)) ggL_countOf_X0_countOf
theorem dL_countOf_0 : decode cL_countOf 0 = .ok (.aload_n 2, 1) := by decide +kernel
theorem dL_countOf_1 : decode cL_countOf 1 = .ok (.iconst 0, 1) := by decide +kernel
theorem dL_countOf_2 : decode cL_countOf 2 = .ok (.aload_n 0, 1) := by decide +kernel
theorem dL_countOf_3 : decode cL_countOf 3 = .ok (.iload_n 1, 1) := by decide +kernel
theorem dL_countOf_4 : decode cL_countOf 4 = .ok (.invokevirtual 51, 3) := by decide +kernel
theorem dL_countOf_7 : decode cL_countOf 7 = .ok (.i2l, 1) := by decide +kernel
theorem dL_countOf_8 : decode cL_countOf 8 = .ok (.lastore, 1) := by decide +kernel
theorem dL_countOf_9 : decode cL_countOf 9 = .ok (.goto 6, 3) := by decide +kernel
theorem dL_countOf_12 : decode cL_countOf 12 = .ok (.astore_n 3, 1) := by decide +kernel
theorem dL_countOf_13 : decode cL_countOf 13 = .ok (.iconst 1, 1) := by decide +kernel
theorem dL_countOf_14 : decode cL_countOf 14 = .ok (.ireturn, 1) := by decide +kernel
theorem dL_countOf_15 : decode cL_countOf 15 = .ok (.iconst 0, 1) := by decide +kernel
theorem dL_countOf_16 : decode cL_countOf 16 = .ok (.ireturn, 1) := by decide +kernel
set_option maxRecDepth 20000 in
theorem ggL_mayStandFor_X0_mayStandFor : GoodIn wsL_mayStandFor wsX0_mayStandFor := goodIn_ca (goodIn_r _ [6, 7, 8, 9, 10, 5, 11, 12, 13, 14, 15, 16, 17, 18, 19, 20, 21, 22, 23, 24, 25, 26, 27, 28, 29, 30, 31, 32, 33, 34, 35] (by decide +kernel) (by decide +kernel)) (goodIn_sub (fun _ h => List.mem_cons_of_mem _ (List.mem_append_right _ h)) (by decide +kernel))
set_option maxRecDepth 20000 in
theorem gL_mayStandFor_X0_mayStandFor : GoodIn wsL_mayStandFor (wsV RL 54 RX0 yX0_mayStandFor wsX0_mayStandFor) := goodIn_app (goodIn_of _ (by decide +kernel)) ggL_mayStandFor_X0_mayStandFor
theorem dL_mayStandFor_0 : decode cL_mayStandFor 0 = .ok (.aload_n 3, 1) := by decide +kernel
theorem dL_mayStandFor_1 : decode cL_mayStandFor 1 = .ok (.iconst 0, 1) := by decide +kernel
theorem dL_mayStandFor_2 : decode cL_mayStandFor 2 = .ok (.aload_n 0, 1) := by decide +kernel
theorem dL_mayStandFor_3 : decode cL_mayStandFor 3 = .ok (.iload_n 1, 1) := by decide +kernel
theorem dL_mayStandFor_4 : decode cL_mayStandFor 4 = .ok (.iload_n 2, 1) := by decide +kernel
theorem dL_mayStandFor_5 : decode cL_mayStandFor 5 = .ok (.invokevirtual 54, 3) := by decide +kernel
theorem dL_mayStandFor_8 : decode cL_mayStandFor 8 = .ok (.ifCond .eq 7, 3) := by decide +kernel
theorem dL_mayStandFor_11 : decode cL_mayStandFor 11 = .ok (.lconst 1, 1) := by decide +kernel
theorem dL_mayStandFor_12 : decode cL_mayStandFor 12 = .ok (.goto 4, 3) := by decide +kernel
theorem dL_mayStandFor_15 : decode cL_mayStandFor 15 = .ok (.lconst 0, 1) := by decide +kernel
theorem dL_mayStandFor_16 : decode cL_mayStandFor 16 = .ok (.lastore, 1) := by decide +kernel
theorem dL_mayStandFor_17 : decode cL_mayStandFor 17 = .ok (.goto 7, 3) := by decide +kernel
theorem dL_mayStandFor_20 : decode cL_mayStandFor 20 = .ok (.astore 4, 2) := by decide +kernel
theorem dL_mayStandFor_22 : decode cL_mayStandFor 22 = .ok (.iconst 1, 1) := by decide +kernel
theorem dL_mayStandFor_23 : decode cL_mayStandFor 23 = .ok (.ireturn, 1) := by decide +kernel
theorem dL_mayStandFor_24 : decode cL_mayStandFor 24 = .ok (.iconst 0, 1) := by decide +kernel
theorem dL_mayStandFor_25 : decode cL_mayStandFor 25 = .ok (.ireturn, 1) := by decide +kernel
set_option maxRecDepth 20000 in
theorem ggL_mayJoin_X0_mayJoin : GoodIn wsL_mayJoin wsX0_mayJoin := goodIn_ca (goodIn_r _ [6, 7, 8, 9, 10, 5, 11, 12, 13, 14, 15, 16, 17, 18, 19, 20, 21, 22, 23, 24, 25, 26, 27, 28, 29, 30, 31, 32, 33, 34, 35] (by decide +kernel) (by decide +kernel)) (goodIn_sub (fun _ h => List.mem_cons_of_mem _ (List.mem_append_right _ h)) (by decide +kernel))
set_option maxRecDepth 20000 in
theorem gL_mayJoin_X0_mayJoin : GoodIn wsL_mayJoin (wsV RL 57 RX0 yX0_mayJoin wsX0_mayJoin) := goodIn_app (goodIn_of _ (by decide +kernel)) ggL_mayJoin_X0_mayJoin
theorem dL_mayJoin_0 : decode cL_mayJoin 0 = .ok (.aload_n 3, 1) := by decide +kernel
theorem dL_mayJoin_1 : decode cL_mayJoin 1 = .ok (.iconst 0, 1) := by decide +kernel
theorem dL_mayJoin_2 : decode cL_mayJoin 2 = .ok (.aload_n 0, 1) := by decide +kernel
theorem dL_mayJoin_3 : decode cL_mayJoin 3 = .ok (.iload_n 1, 1) := by decide +kernel
theorem dL_mayJoin_4 : decode cL_mayJoin 4 = .ok (.iload_n 2, 1) := by decide +kernel
theorem dL_mayJoin_5 : decode cL_mayJoin 5 = .ok (.invokevirtual 57, 3) := by decide +kernel
theorem dL_mayJoin_8 : decode cL_mayJoin 8 = .ok (.ifCond .eq 7, 3) := by decide +kernel
theorem dL_mayJoin_11 : decode cL_mayJoin 11 = .ok (.lconst 1, 1) := by decide +kernel
theorem dL_mayJoin_12 : decode cL_mayJoin 12 = .ok (.goto 4, 3) := by decide +kernel
theorem dL_mayJoin_15 : decode cL_mayJoin 15 = .ok (.lconst 0, 1) := by decide +kernel
theorem dL_mayJoin_16 : decode cL_mayJoin 16 = .ok (.lastore, 1) := by decide +kernel
theorem dL_mayJoin_17 : decode cL_mayJoin 17 = .ok (.goto 7, 3) := by decide +kernel
theorem dL_mayJoin_20 : decode cL_mayJoin 20 = .ok (.astore 4, 2) := by decide +kernel
theorem dL_mayJoin_22 : decode cL_mayJoin 22 = .ok (.iconst 1, 1) := by decide +kernel
theorem dL_mayJoin_23 : decode cL_mayJoin 23 = .ok (.ireturn, 1) := by decide +kernel
theorem dL_mayJoin_24 : decode cL_mayJoin 24 = .ok (.iconst 0, 1) := by decide +kernel
theorem dL_mayJoin_25 : decode cL_mayJoin 25 = .ok (.ireturn, 1) := by decide +kernel
set_option maxRecDepth 20000 in
theorem ggL_standInsOf_X0_standInsOf : GoodIn wsL_standInsOf wsX0_standInsOf := goodIn_ca (goodIn_r _ [6, 7, 8, 9, 10, 5, 11, 12, 13, 14, 15, 16, 17, 18, 19, 20, 21, 22, 23, 24, 25, 26, 27, 28, 29, 30, 31, 32, 33, 34, 35, 36, 37, 38, 39] (by decide +kernel) (by decide +kernel)) (goodIn_sub (fun _ h => List.mem_cons_of_mem _ (List.mem_append_right _ h)) (by decide +kernel))
set_option maxRecDepth 20000 in
theorem gL_standInsOf_X0_standInsOf : GoodIn wsL_standInsOf (wsV RL 60 RX0 yX0_standInsOf wsX0_standInsOf) := goodIn_app (goodIn_of _ (by decide +kernel)) ggL_standInsOf_X0_standInsOf
theorem dL_standInsOf_0 : decode cL_standInsOf 0 = .ok (.aload_n 2, 1) := by decide +kernel
theorem dL_standInsOf_1 : decode cL_standInsOf 1 = .ok (.iconst 0, 1) := by decide +kernel
theorem dL_standInsOf_2 : decode cL_standInsOf 2 = .ok (.aload_n 0, 1) := by decide +kernel
theorem dL_standInsOf_3 : decode cL_standInsOf 3 = .ok (.iload_n 1, 1) := by decide +kernel
theorem dL_standInsOf_4 : decode cL_standInsOf 4 = .ok (.invokevirtual 60, 3) := by decide +kernel
theorem dL_standInsOf_7 : decode cL_standInsOf 7 = .ok (.i2l, 1) := by decide +kernel
theorem dL_standInsOf_8 : decode cL_standInsOf 8 = .ok (.lastore, 1) := by decide +kernel
theorem dL_standInsOf_9 : decode cL_standInsOf 9 = .ok (.goto 6, 3) := by decide +kernel
theorem dL_standInsOf_12 : decode cL_standInsOf 12 = .ok (.astore_n 3, 1) := by decide +kernel
theorem dL_standInsOf_13 : decode cL_standInsOf 13 = .ok (.iconst 1, 1) := by decide +kernel
theorem dL_standInsOf_14 : decode cL_standInsOf 14 = .ok (.ireturn, 1) := by decide +kernel
theorem dL_standInsOf_15 : decode cL_standInsOf 15 = .ok (.iconst 0, 1) := by decide +kernel
theorem dL_standInsOf_16 : decode cL_standInsOf 16 = .ok (.ireturn, 1) := by decide +kernel
set_option maxRecDepth 20000 in
theorem ggL_wordAt_X0_wordAt : GoodIn wsL_wordAt wsX0_wordAt := goodIn_ca (goodIn_r _ [6, 7, 8, 9, 10, 5, 11, 12, 13, 14, 15, 16, 17, 18, 19, 20, 21, 22, 23, 24, 25, 26, 27, 28, 29, 30, 31, 32] (by decide +kernel) (by decide +kernel)) (goodIn_sub (fun _ h => List.mem_cons_of_mem _ (List.mem_append_right _ h)) (by decide +kernel))
set_option maxRecDepth 20000 in
theorem gL_wordAt_X0_wordAt : GoodIn wsL_wordAt (wsV RL 63 RX0 yX0_wordAt wsX0_wordAt) := goodIn_app (goodIn_of _ (by decide +kernel)) ggL_wordAt_X0_wordAt
theorem dL_wordAt_0 : decode cL_wordAt 0 = .ok (.aload_n 2, 1) := by decide +kernel
theorem dL_wordAt_1 : decode cL_wordAt 1 = .ok (.iconst 0, 1) := by decide +kernel
theorem dL_wordAt_2 : decode cL_wordAt 2 = .ok (.aload_n 0, 1) := by decide +kernel
theorem dL_wordAt_3 : decode cL_wordAt 3 = .ok (.iload_n 1, 1) := by decide +kernel
theorem dL_wordAt_4 : decode cL_wordAt 4 = .ok (.invokevirtual 63, 3) := by decide +kernel
theorem dL_wordAt_7 : decode cL_wordAt 7 = .ok (.i2l, 1) := by decide +kernel
theorem dL_wordAt_8 : decode cL_wordAt 8 = .ok (.lastore, 1) := by decide +kernel
theorem dL_wordAt_9 : decode cL_wordAt 9 = .ok (.goto 6, 3) := by decide +kernel
theorem dL_wordAt_12 : decode cL_wordAt 12 = .ok (.astore_n 3, 1) := by decide +kernel
theorem dL_wordAt_13 : decode cL_wordAt 13 = .ok (.iconst 1, 1) := by decide +kernel
theorem dL_wordAt_14 : decode cL_wordAt 14 = .ok (.ireturn, 1) := by decide +kernel
theorem dL_wordAt_15 : decode cL_wordAt 15 = .ok (.iconst 0, 1) := by decide +kernel
theorem dL_wordAt_16 : decode cL_wordAt 16 = .ok (.ireturn, 1) := by decide +kernel
set_option maxRecDepth 20000 in
theorem ggL_isJoined_X0_isJoined : GoodIn wsL_isJoined wsX0_isJoined := goodIn_ca (goodIn_r _ [6, 7, 8, 9, 10, 5, 11, 12, 13, 14, 15, 16, 17, 18, 19, 20, 21, 22, 23, 24, 25, 26, 27, 28, 29, 30, 31, 32] (by decide +kernel) (by decide +kernel)) (goodIn_sub (fun _ h => List.mem_cons_of_mem _ (List.mem_append_right _ h)) (by decide +kernel))
set_option maxRecDepth 20000 in
theorem gL_isJoined_X0_isJoined : GoodIn wsL_isJoined (wsV RL 66 RX0 yX0_isJoined wsX0_isJoined) := goodIn_app (goodIn_of _ (by decide +kernel)) ggL_isJoined_X0_isJoined
theorem dL_isJoined_0 : decode cL_isJoined 0 = .ok (.aload_n 2, 1) := by decide +kernel
theorem dL_isJoined_1 : decode cL_isJoined 1 = .ok (.iconst 0, 1) := by decide +kernel
theorem dL_isJoined_2 : decode cL_isJoined 2 = .ok (.aload_n 0, 1) := by decide +kernel
theorem dL_isJoined_3 : decode cL_isJoined 3 = .ok (.iload_n 1, 1) := by decide +kernel
theorem dL_isJoined_4 : decode cL_isJoined 4 = .ok (.invokevirtual 66, 3) := by decide +kernel
theorem dL_isJoined_7 : decode cL_isJoined 7 = .ok (.ifCond .eq 7, 3) := by decide +kernel
theorem dL_isJoined_10 : decode cL_isJoined 10 = .ok (.lconst 1, 1) := by decide +kernel
theorem dL_isJoined_11 : decode cL_isJoined 11 = .ok (.goto 4, 3) := by decide +kernel
theorem dL_isJoined_14 : decode cL_isJoined 14 = .ok (.lconst 0, 1) := by decide +kernel
theorem dL_isJoined_15 : decode cL_isJoined 15 = .ok (.lastore, 1) := by decide +kernel
theorem dL_isJoined_16 : decode cL_isJoined 16 = .ok (.goto 6, 3) := by decide +kernel
theorem dL_isJoined_19 : decode cL_isJoined 19 = .ok (.astore_n 3, 1) := by decide +kernel
theorem dL_isJoined_20 : decode cL_isJoined 20 = .ok (.iconst 1, 1) := by decide +kernel
theorem dL_isJoined_21 : decode cL_isJoined 21 = .ok (.ireturn, 1) := by decide +kernel
theorem dL_isJoined_22 : decode cL_isJoined 22 = .ok (.iconst 0, 1) := by decide +kernel
theorem dL_isJoined_23 : decode cL_isJoined 23 = .ok (.ireturn, 1) := by decide +kernel
set_option maxRecDepth 20000 in
theorem ggL_priceTo_X0_priceTo : GoodIn wsL_priceTo wsX0_priceTo := goodIn_ca (goodIn_r _ [6, 7, 8, 9, 10, 11, 5, 12, 13, 14, 15, 16, 17, 18, 19, 20, 21, 22, 23, 24, 25, 26, 27, 28, 29, 30, 31, 32, 33, 34, 35, 36, 37, 38, 39, 40, 41, 42, 43, 44, 45, 46, 47, 48, 49, 50, 51, 52, 53, 54, 55, 56, 57] (by decide +kernel) (by decide +kernel)) (goodIn_sub (fun _ h => List.mem_cons_of_mem _ (List.mem_append_right _ h)) (by decide +kernel))
set_option maxRecDepth 20000 in
theorem gL_priceTo_X0_priceTo : GoodIn wsL_priceTo (wsV RL 69 RX0 yX0_priceTo wsX0_priceTo) := goodIn_app (goodIn_of _ (by decide +kernel)) ggL_priceTo_X0_priceTo
theorem dL_priceTo_0 : decode cL_priceTo 0 = .ok (.aload_n 2, 1) := by decide +kernel
theorem dL_priceTo_1 : decode cL_priceTo 1 = .ok (.iconst 0, 1) := by decide +kernel
theorem dL_priceTo_2 : decode cL_priceTo 2 = .ok (.aload_n 0, 1) := by decide +kernel
theorem dL_priceTo_3 : decode cL_priceTo 3 = .ok (.iload_n 1, 1) := by decide +kernel
theorem dL_priceTo_4 : decode cL_priceTo 4 = .ok (.invokevirtual 69, 3) := by decide +kernel
theorem dL_priceTo_7 : decode cL_priceTo 7 = .ok (.i2l, 1) := by decide +kernel
theorem dL_priceTo_8 : decode cL_priceTo 8 = .ok (.lastore, 1) := by decide +kernel
theorem dL_priceTo_9 : decode cL_priceTo 9 = .ok (.goto 6, 3) := by decide +kernel
theorem dL_priceTo_12 : decode cL_priceTo 12 = .ok (.astore_n 3, 1) := by decide +kernel
theorem dL_priceTo_13 : decode cL_priceTo 13 = .ok (.iconst 1, 1) := by decide +kernel
theorem dL_priceTo_14 : decode cL_priceTo 14 = .ok (.ireturn, 1) := by decide +kernel
theorem dL_priceTo_15 : decode cL_priceTo 15 = .ok (.iconst 0, 1) := by decide +kernel
theorem dL_priceTo_16 : decode cL_priceTo 16 = .ok (.ireturn, 1) := by decide +kernel
set_option maxRecDepth 20000 in
theorem ggL_cheapestWordAt_X0_cheapestWordAt : GoodIn wsL_cheapestWordAt wsX0_cheapestWordAt := goodIn_ca (goodIn_r _ [6, 7, 8, 9, 10, 5, 11, 12, 13, 14, 15, 16, 17, 18, 19, 20, 21, 22, 23, 24, 25, 26, 27, 28, 29, 30, 31, 32, 33, 34, 35, 36, 37, 38, 39, 40, 41, 42, 43, 44, 45, 46, 47, 48, 49, 50, 51, 52, 53, 54, 55, 56, 57, 58, 59, 60, 61, 62, 63, 64, 65, 66, 67, 68, 69, 70, 71, 72, 73, 74, 75, 76, 77, 78, 79, 80, 81, 82, 83, 84, 85, 86] (by decide +kernel) (by decide +kernel)) (goodIn_sub (fun _ h => List.mem_cons_of_mem _ (List.mem_append_right _ h)) (by decide +kernel))
set_option maxRecDepth 20000 in
theorem gL_cheapestWordAt_X0_cheapestWordAt : GoodIn wsL_cheapestWordAt (wsV RL 72 RX0 yX0_cheapestWordAt wsX0_cheapestWordAt) := goodIn_app (goodIn_of _ (by decide +kernel)) ggL_cheapestWordAt_X0_cheapestWordAt
theorem dL_cheapestWordAt_0 : decode cL_cheapestWordAt 0 = .ok (.aload_n 2, 1) := by decide +kernel
theorem dL_cheapestWordAt_1 : decode cL_cheapestWordAt 1 = .ok (.iconst 0, 1) := by decide +kernel
theorem dL_cheapestWordAt_2 : decode cL_cheapestWordAt 2 = .ok (.aload_n 0, 1) := by decide +kernel
theorem dL_cheapestWordAt_3 : decode cL_cheapestWordAt 3 = .ok (.iload_n 1, 1) := by decide +kernel
theorem dL_cheapestWordAt_4 : decode cL_cheapestWordAt 4 = .ok (.invokevirtual 72, 3) := by decide +kernel
theorem dL_cheapestWordAt_7 : decode cL_cheapestWordAt 7 = .ok (.i2l, 1) := by decide +kernel
theorem dL_cheapestWordAt_8 : decode cL_cheapestWordAt 8 = .ok (.lastore, 1) := by decide +kernel
theorem dL_cheapestWordAt_9 : decode cL_cheapestWordAt 9 = .ok (.goto 6, 3) := by decide +kernel
theorem dL_cheapestWordAt_12 : decode cL_cheapestWordAt 12 = .ok (.astore_n 3, 1) := by decide +kernel
theorem dL_cheapestWordAt_13 : decode cL_cheapestWordAt 13 = .ok (.iconst 1, 1) := by decide +kernel
theorem dL_cheapestWordAt_14 : decode cL_cheapestWordAt 14 = .ok (.ireturn, 1) := by decide +kernel
theorem dL_cheapestWordAt_15 : decode cL_cheapestWordAt 15 = .ok (.iconst 0, 1) := by decide +kernel
theorem dL_cheapestWordAt_16 : decode cL_cheapestWordAt 16 = .ok (.ireturn, 1) := by decide +kernel
set_option maxRecDepth 20000 in
theorem ggL_isJoinedInCheapest_X0_isJoinedInCheapest : GoodIn wsL_isJoinedInCheapest wsX0_isJoinedInCheapest := goodIn_ca (goodIn_r _ [6, 7, 8, 9, 10, 5, 11, 12, 13, 14, 15, 16, 17, 18, 19, 20, 21, 22, 23, 24, 25, 26, 27, 28, 29, 30, 31, 32, 33, 34, 35, 36, 37, 38, 39, 40, 41, 42, 43, 44, 45, 46, 47, 48, 49, 50, 51, 52, 53, 54, 55, 56, 57, 58, 59, 60, 61, 62, 63, 64, 65, 66, 67, 68, 69, 70, 71, 72, 73, 74, 75, 76, 77, 78, 79, 80, 81, 82, 83, 84, 85, 86] (by decide +kernel) (by decide +kernel)) (goodIn_sub (fun _ h => List.mem_cons_of_mem _ (List.mem_append_right _ h)) (by decide +kernel))
set_option maxRecDepth 20000 in
theorem gL_isJoinedInCheapest_X0_isJoinedInCheapest : GoodIn wsL_isJoinedInCheapest (wsV RL 75 RX0 yX0_isJoinedInCheapest wsX0_isJoinedInCheapest) := goodIn_app (goodIn_of _ (by decide +kernel)) ggL_isJoinedInCheapest_X0_isJoinedInCheapest
theorem dL_isJoinedInCheapest_0 : decode cL_isJoinedInCheapest 0 = .ok (.aload_n 2, 1) := by decide +kernel
theorem dL_isJoinedInCheapest_1 : decode cL_isJoinedInCheapest 1 = .ok (.iconst 0, 1) := by decide +kernel
theorem dL_isJoinedInCheapest_2 : decode cL_isJoinedInCheapest 2 = .ok (.aload_n 0, 1) := by decide +kernel
theorem dL_isJoinedInCheapest_3 : decode cL_isJoinedInCheapest 3 = .ok (.iload_n 1, 1) := by decide +kernel
theorem dL_isJoinedInCheapest_4 : decode cL_isJoinedInCheapest 4 = .ok (.invokevirtual 75, 3) := by decide +kernel
theorem dL_isJoinedInCheapest_7 : decode cL_isJoinedInCheapest 7 = .ok (.ifCond .eq 7, 3) := by decide +kernel
theorem dL_isJoinedInCheapest_10 : decode cL_isJoinedInCheapest 10 = .ok (.lconst 1, 1) := by decide +kernel
theorem dL_isJoinedInCheapest_11 : decode cL_isJoinedInCheapest 11 = .ok (.goto 4, 3) := by decide +kernel
theorem dL_isJoinedInCheapest_14 : decode cL_isJoinedInCheapest 14 = .ok (.lconst 0, 1) := by decide +kernel
theorem dL_isJoinedInCheapest_15 : decode cL_isJoinedInCheapest 15 = .ok (.lastore, 1) := by decide +kernel
theorem dL_isJoinedInCheapest_16 : decode cL_isJoinedInCheapest 16 = .ok (.goto 6, 3) := by decide +kernel
theorem dL_isJoinedInCheapest_19 : decode cL_isJoinedInCheapest 19 = .ok (.astore_n 3, 1) := by decide +kernel
theorem dL_isJoinedInCheapest_20 : decode cL_isJoinedInCheapest 20 = .ok (.iconst 1, 1) := by decide +kernel
theorem dL_isJoinedInCheapest_21 : decode cL_isJoinedInCheapest 21 = .ok (.ireturn, 1) := by decide +kernel
theorem dL_isJoinedInCheapest_22 : decode cL_isJoinedInCheapest 22 = .ok (.iconst 0, 1) := by decide +kernel
theorem dL_isJoinedInCheapest_23 : decode cL_isJoinedInCheapest 23 = .ok (.ireturn, 1) := by decide +kernel
