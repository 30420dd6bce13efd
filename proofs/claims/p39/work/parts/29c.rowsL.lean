theorem dL_below_0 : decode cL_below 0 = .ok (.iload_n 0, 1) := by decide +kernel
theorem dL_below_1 : decode cL_below 1 = .ok (.ldc 7, 2) := by decide +kernel
theorem dL_below_3 : decode cL_below 3 = .ok (.iand, 1) := by decide +kernel
theorem dL_below_4 : decode cL_below 4 = .ok (.iload_n 1, 1) := by decide +kernel
theorem dL_below_5 : decode cL_below 5 = .ok (.irem, 1) := by decide +kernel
theorem dL_below_6 : decode cL_below 6 = .ok (.ireturn, 1) := by decide +kernel
theorem dL_cell_0 : decode cL_cell 0 = .ok (.iload_n 1, 1) := by decide +kernel
theorem dL_cell_1 : decode cL_cell 1 = .ok (.aload_n 0, 1) := by decide +kernel
theorem dL_cell_2 : decode cL_cell 2 = .ok (.arraylength, 1) := by decide +kernel
theorem dL_cell_3 : decode cL_cell 3 = .ok (.if_icmp .ge 9, 3) := by decide +kernel
theorem dL_cell_6 : decode cL_cell 6 = .ok (.aload_n 0, 1) := by decide +kernel
theorem dL_cell_7 : decode cL_cell 7 = .ok (.iload_n 1, 1) := by decide +kernel
theorem dL_cell_8 : decode cL_cell 8 = .ok (.iaload, 1) := by decide +kernel
theorem dL_cell_9 : decode cL_cell 9 = .ok (.goto 9, 3) := by decide +kernel
theorem dL_cell_12 : decode cL_cell 12 = .ok (.ldc 8, 2) := by decide +kernel
theorem dL_cell_14 : decode cL_cell 14 = .ok (.iload_n 1, 1) := by decide +kernel
theorem dL_cell_15 : decode cL_cell 15 = .ok (.iconst 3, 1) := by decide +kernel
theorem dL_cell_16 : decode cL_cell 16 = .ok (.iadd, 1) := by decide +kernel
theorem dL_cell_17 : decode cL_cell 17 = .ok (.imul, 1) := by decide +kernel
theorem dL_cell_18 : decode cL_cell 18 = .ok (.ireturn, 1) := by decide +kernel
set_option maxRecDepth 20000 in
theorem ggL_act_L_below : GoodIn wsL_act wsL_below := goodIn_r _ [17, 18] rfl (by decide +kernel)
set_option maxRecDepth 20000 in
theorem gL_act_L_below : GoodIn wsL_act (va_wsS RL 15 yL_below wsL_below) := goodIn_app (goodIn_of _ (by decide +kernel)) ggL_act_L_below
set_option maxRecDepth 20000 in
theorem ggL_act_X0_addWord : GoodIn wsL_act wsX0_addWord := goodIn_ca (goodIn_ca (goodIn_r _ [23, 24, 25, 26, 27, 28, 29, 30, 31, 229, 230, 231, 232, 233, 234, 235, 236, 237, 238, 239, 240, 241, 242, 243, 244, 245, 246] rfl (by decide +kernel)) (goodIn_sub (fun _ h => List.mem_cons_of_mem _ (List.mem_append_left _ (List.mem_append_left _ (List.mem_append_right _ h)))) (by decide +kernel))) (goodIn_sub (fun _ h => List.mem_cons_of_mem _ (List.mem_append_left _ (List.mem_append_right _ h))) (by decide +kernel))
set_option maxRecDepth 20000 in
theorem gL_act_X0_addWord : GoodIn wsL_act (wsV RL 28 RX0 yX0_addWord wsX0_addWord) := goodIn_app (goodIn_of _ (by decide +kernel)) ggL_act_X0_addWord
set_option maxRecDepth 20000 in
theorem ggL_act_X0_turnStandIn : GoodIn wsL_act wsX0_turnStandIn := goodIn_ca (goodIn_ca (goodIn_r _ [35, 24, 25, 30, 36, 37, 38, 22, 39, 40, 41, 28, 42, 43, 44, 229, 230, 231, 232, 233, 234, 235, 236, 237, 238, 239, 240, 241, 242, 243, 244, 245, 246] rfl (by decide +kernel)) (goodIn_sub (fun _ h => List.mem_cons_of_mem _ (List.mem_append_left _ (List.mem_append_left _ (List.mem_append_right _ h)))) (by decide +kernel))) (goodIn_sub (fun _ h => List.mem_cons_of_mem _ (List.mem_append_right _ h)) (by decide +kernel))
set_option maxRecDepth 20000 in
theorem gL_act_X0_turnStandIn : GoodIn wsL_act (wsV RL 38 RX0 yX0_turnStandIn wsX0_turnStandIn) := goodIn_app (goodIn_of _ (by decide +kernel)) ggL_act_X0_turnStandIn
set_option maxRecDepth 20000 in
theorem ggL_act_X0_turnJoin : GoodIn wsL_act wsX0_turnJoin := goodIn_ca (goodIn_r _ [48, 31, 36, 37, 38, 22, 39, 40, 41, 28, 42, 43, 44, 229, 230, 231, 232, 233, 234, 235, 236, 237, 238, 239, 240, 241, 242, 243, 244, 245, 246] rfl (by decide +kernel)) (goodIn_sub (fun _ h => List.mem_cons_of_mem _ (List.mem_append_right _ h)) (by decide +kernel))
set_option maxRecDepth 20000 in
theorem gL_act_X0_turnJoin : GoodIn wsL_act (wsV RL 45 RX0 yX0_turnJoin wsX0_turnJoin) := goodIn_app (goodIn_of _ (by decide +kernel)) ggL_act_X0_turnJoin
set_option maxRecDepth 20000 in
theorem ggL_act_X0_setLimit : GoodIn wsL_act wsX0_setLimit := goodIn_ca (goodIn_r _ [52, 24, 25, 53, 229, 230, 231, 232, 233, 234, 235, 236, 237, 238, 239, 240, 241, 242, 243, 244, 245, 246] rfl (by decide +kernel)) (goodIn_sub (fun _ h => List.mem_cons_of_mem _ (List.mem_append_left _ (List.mem_append_left _ (List.mem_append_right _ h)))) (by decide +kernel))
set_option maxRecDepth 20000 in
theorem gL_act_X0_setLimit : GoodIn wsL_act (wsV RL 51 RX0 yX0_setLimit wsX0_setLimit) := goodIn_app (goodIn_of _ (by decide +kernel)) ggL_act_X0_setLimit
set_option maxRecDepth 20000 in
theorem ggL_act_X0_setLeastCount : GoodIn wsL_act wsX0_setLeastCount := goodIn_ca (goodIn_r _ [57, 24, 25, 58, 229, 230, 231, 232, 233, 234, 235, 236, 237, 238, 239, 240, 241, 242, 243, 244, 245, 246] rfl (by decide +kernel)) (goodIn_sub (fun _ h => List.mem_cons_of_mem _ (List.mem_append_left _ (List.mem_append_left _ (List.mem_append_right _ h)))) (by decide +kernel))
set_option maxRecDepth 20000 in
theorem gL_act_X0_setLeastCount : GoodIn wsL_act (wsV RL 57 RX0 yX0_setLeastCount wsX0_setLeastCount) := goodIn_app (goodIn_of _ (by decide +kernel)) ggL_act_X0_setLeastCount
set_option maxRecDepth 20000 in
theorem ggL_act_X0_setCoins : GoodIn wsL_act wsX0_setCoins := goodIn_ca (goodIn_r _ [62, 24, 25, 63, 229, 230, 231, 232, 233, 234, 235, 236, 237, 238, 239, 240, 241, 242, 243, 244, 245, 246] rfl (by decide +kernel)) (goodIn_sub (fun _ h => List.mem_cons_of_mem _ (List.mem_append_left _ (List.mem_append_left _ (List.mem_append_right _ h)))) (by decide +kernel))
set_option maxRecDepth 20000 in
theorem gL_act_X0_setCoins : GoodIn wsL_act (wsV RL 63 RX0 yX0_setCoins wsX0_setCoins) := goodIn_app (goodIn_of _ (by decide +kernel)) ggL_act_X0_setCoins
set_option maxRecDepth 20000 in
theorem ggL_act_X0_strike : GoodIn wsL_act wsX0_strike := goodIn_ca (goodIn_r _ [67, 68, 69, 70, 71, 72, 73, 22, 74, 40, 41, 229, 230, 231, 232, 233, 234, 235, 236, 237, 238, 239, 240, 241, 242, 243, 244, 245, 246] rfl (by decide +kernel)) (goodIn_sub (fun _ h => List.mem_cons_of_mem _ (List.mem_append_right _ h)) (by decide +kernel))
set_option maxRecDepth 20000 in
theorem gL_act_X0_strike : GoodIn wsL_act (wsV RL 70 RX0 yX0_strike wsX0_strike) := goodIn_app (goodIn_of _ (by decide +kernel)) ggL_act_X0_strike
set_option maxRecDepth 20000 in
theorem ggL_act_X0_turnJoined : GoodIn wsL_act wsX0_turnJoined := goodIn_ca (goodIn_ca (goodIn_r _ [78, 26, 27, 68, 71, 72, 73, 22, 74, 40, 41, 69, 79, 80, 81, 82, 31, 70, 42, 43, 44, 229, 230, 231, 232, 233, 234, 235, 236, 237, 238, 239, 240, 241, 242, 243, 244, 245, 246] rfl (by decide +kernel)) (goodIn_sub (fun _ h => List.mem_cons_of_mem _ (List.mem_append_left _ (List.mem_append_right _ h))) (by decide +kernel))) (goodIn_sub (fun _ h => List.mem_cons_of_mem _ (List.mem_append_right _ h)) (by decide +kernel))
set_option maxRecDepth 20000 in
theorem gL_act_X0_turnJoined : GoodIn wsL_act (wsV RL 73 RX0 yX0_turnJoined wsX0_turnJoined) := goodIn_app (goodIn_of _ (by decide +kernel)) ggL_act_X0_turnJoined
set_option maxRecDepth 20000 in
theorem ggL_act_X1_count : GoodIn wsL_act wsX1_count := goodIn_r _ [87, 88, 89, 90, 91, 92, 86, 93, 94, 95, 96, 97, 98, 99, 100, 101, 102, 103, 104, 218, 219, 220, 221, 222, 223, 224, 225, 226, 227, 228] rfl (by decide +kernel)
set_option maxRecDepth 20000 in
theorem gL_act_X1_count : GoodIn wsL_act (wsV RL 77 RX1 yX1_count wsX1_count) := goodIn_app (goodIn_of _ (by decide +kernel)) ggL_act_X1_count
set_option maxRecDepth 20000 in
theorem ggL_act_X1_wording : GoodIn wsL_act wsX1_wording := goodIn_r _ [108, 88, 9, 109, 94, 110, 111, 112, 113, 86, 114, 115, 116, 99, 104, 117, 118, 119, 120, 121, 122, 123, 124, 125, 10, 89, 126, 127, 128, 129, 130, 131, 132, 133, 134, 135, 136, 137, 138, 139, 140, 141, 95, 96, 97, 98, 100, 101, 102, 103, 218, 219, 220, 221, 222, 223, 224, 225, 226, 227, 228] rfl (by decide +kernel)
set_option maxRecDepth 20000 in
theorem gL_act_X1_wording : GoodIn wsL_act (wsV RL 81 RX1 yX1_wording wsX1_wording) := goodIn_app (goodIn_of _ (by decide +kernel)) ggL_act_X1_wording
set_option maxRecDepth 20000 in
theorem ggL_act_X0_reword : GoodIn wsL_act wsX0_reword := goodIn_r _ [145, 69, 70, 146, 68, 147, 148, 149, 150, 22, 151, 29, 152, 153, 154, 155, 156, 157, 158, 159, 53, 160, 161, 162, 163, 58, 164, 165, 136, 166, 167, 168, 169, 170, 171, 172, 173, 174, 175, 176, 177, 178, 179, 180, 181, 182, 28, 183, 184, 185, 186, 30, 42, 43, 44, 187, 188, 189, 190, 31, 191, 192, 193, 194, 195, 135, 137, 196, 197, 198, 199, 229, 230, 231, 232, 233, 234, 235, 236, 237, 238, 239, 240, 241, 242, 243, 244, 245, 246] rfl (by decide +kernel)
set_option maxRecDepth 20000 in
theorem gL_act_X0_reword : GoodIn wsL_act (wsV RL 85 RX0 yX0_reword wsX0_reword) := goodIn_app (goodIn_of _ (by decide +kernel)) ggL_act_X0_reword
set_option maxRecDepth 20000 in
theorem ggL_act_X0_send : GoodIn wsL_act wsX0_send := goodIn_ca (goodIn_ca (goodIn_r _ [203, 26, 27, 69, 204, 205, 206, 207, 208, 22, 209, 40, 41, 210, 211, 212, 213, 63, 148, 149, 150, 151, 68, 70, 29, 152, 153, 154, 155, 156, 157, 158, 159, 53, 160, 161, 162, 163, 58, 164, 165, 136, 166, 229, 230, 231, 232, 233, 234, 235, 236, 237, 238, 239, 240, 241, 242, 243, 244, 245, 246] rfl (by decide +kernel)) (goodIn_sub (fun _ h => List.mem_cons_of_mem _ (List.mem_append_left _ (List.mem_append_right _ h))) (by decide +kernel))) (goodIn_sub (fun _ h => List.mem_cons_of_mem _ (List.mem_append_right _ h)) (by decide +kernel))
set_option maxRecDepth 20000 in
theorem gL_act_X0_send : GoodIn wsL_act (wsV RL 94 RX0 yX0_send wsX0_send) := goodIn_app (goodIn_of _ (by decide +kernel)) ggL_act_X0_send
set_option maxRecDepth 20000 in
theorem ggL_act_X0_write : GoodIn wsL_act wsX0_write := goodIn_ca (goodIn_ca (goodIn_r _ [217, 26, 27, 69, 70, 68, 36, 37, 38, 22, 39, 40, 41, 28, 229, 230, 231, 232, 233, 234, 235, 236, 237, 238, 239, 240, 241, 242, 243, 244, 245, 246] rfl (by decide +kernel)) (goodIn_sub (fun _ h => List.mem_cons_of_mem _ (List.mem_append_left _ (List.mem_append_right _ h))) (by decide +kernel))) (goodIn_sub (fun _ h => List.mem_cons_of_mem _ (List.mem_append_right _ h)) (by decide +kernel))
set_option maxRecDepth 20000 in
theorem gL_act_X0_write : GoodIn wsL_act (wsV RL 97 RX0 yX0_write wsX0_write) := goodIn_app (goodIn_of _ (by decide +kernel)) ggL_act_X0_write
theorem dL_act_0 : decode cL_act 0 = .ok (.aload_n 1, 1) := by decide +kernel
theorem dL_act_1 : decode cL_act 1 = .ok (.getfield 9, 3) := by decide +kernel
theorem dL_act_4 : decode cL_act 4 = .ok (.arraylength, 1) := by decide +kernel
theorem dL_act_5 : decode cL_act 5 = .ok (.istore_n 3, 1) := by decide +kernel
theorem dL_act_6 : decode cL_act 6 = .ok (.iload_n 2, 1) := by decide +kernel
theorem dL_act_7 : decode cL_act 7 = .ok (.bipush 9, 2) := by decide +kernel
theorem dL_act_9 : decode cL_act 9 = .ok (.ishr, 1) := by decide +kernel
theorem dL_act_10 : decode cL_act 10 = .ok (.bipush 26, 2) := by decide +kernel
theorem dL_act_12 : decode cL_act 12 = .ok (.invokestatic 15, 3) := by decide +kernel
theorem dL_act_15 : decode cL_act 15 = .ok (.istore 4, 2) := by decide +kernel
theorem dL_act_17 : decode cL_act 17 = .ok (.aload_n 1, 1) := by decide +kernel
theorem dL_act_18 : decode cL_act 18 = .ok (.getfield 21, 3) := by decide +kernel
theorem dL_act_21 : decode cL_act 21 = .ok (.ifCond .eq 9, 3) := by decide +kernel
theorem dL_act_24 : decode cL_act 24 = .ok (.iload 4, 2) := by decide +kernel
theorem dL_act_26 : decode cL_act 26 = .ok (.iconst 3, 1) := by decide +kernel
theorem dL_act_27 : decode cL_act 27 = .ok (.if_icmp .ge 73, 3) := by decide +kernel
theorem dL_act_30 : decode cL_act 30 = .ok (.aload_n 1, 1) := by decide +kernel
theorem dL_act_31 : decode cL_act 31 = .ok (.getfield 21, 3) := by decide +kernel
theorem dL_act_34 : decode cL_act 34 = .ok (.bipush 12, 2) := by decide +kernel
theorem dL_act_36 : decode cL_act 36 = .ok (.if_icmp .ne 5, 3) := by decide +kernel
theorem dL_act_39 : decode cL_act 39 = .ok (.iconst 1, 1) := by decide +kernel
theorem dL_act_40 : decode cL_act 40 = .ok (.ireturn, 1) := by decide +kernel
theorem dL_act_41 : decode cL_act 41 = .ok (.aload_n 1, 1) := by decide +kernel
theorem dL_act_42 : decode cL_act 42 = .ok (.getfield 25, 3) := by decide +kernel
theorem dL_act_45 : decode cL_act 45 = .ok (.aload_n 1, 1) := by decide +kernel
theorem dL_act_46 : decode cL_act 46 = .ok (.getfield 21, 3) := by decide +kernel
theorem dL_act_49 : decode cL_act 49 = .ok (.iconst 1, 1) := by decide +kernel
theorem dL_act_50 : decode cL_act 50 = .ok (.iload_n 2, 1) := by decide +kernel
theorem dL_act_51 : decode cL_act 51 = .ok (.iconst 1, 1) := by decide +kernel
theorem dL_act_52 : decode cL_act 52 = .ok (.ishr, 1) := by decide +kernel
theorem dL_act_53 : decode cL_act 53 = .ok (.bipush 30, 2) := by decide +kernel
theorem dL_act_55 : decode cL_act 55 = .ok (.invokestatic 15, 3) := by decide +kernel
theorem dL_act_58 : decode cL_act 58 = .ok (.iadd, 1) := by decide +kernel
theorem dL_act_59 : decode cL_act 59 = .ok (.iastore, 1) := by decide +kernel
theorem dL_act_60 : decode cL_act 60 = .ok (.aload_n 1, 1) := by decide +kernel
theorem dL_act_61 : decode cL_act 61 = .ok (.dup, 1) := by decide +kernel
theorem dL_act_62 : decode cL_act 62 = .ok (.getfield 21, 3) := by decide +kernel
theorem dL_act_65 : decode cL_act 65 = .ok (.iconst 1, 1) := by decide +kernel
theorem dL_act_66 : decode cL_act 66 = .ok (.iadd, 1) := by decide +kernel
theorem dL_act_67 : decode cL_act 67 = .ok (.putfield 21, 3) := by decide +kernel
theorem dL_act_70 : decode cL_act 70 = .ok (.aload_n 0, 1) := by decide +kernel
theorem dL_act_71 : decode cL_act 71 = .ok (.aload_n 1, 1) := by decide +kernel
theorem dL_act_72 : decode cL_act 72 = .ok (.getfield 25, 3) := by decide +kernel
theorem dL_act_75 : decode cL_act 75 = .ok (.aload_n 1, 1) := by decide +kernel
theorem dL_act_76 : decode cL_act 76 = .ok (.getfield 21, 3) := by decide +kernel
theorem dL_act_79 : decode cL_act 79 = .ok (.iconst 1, 1) := by decide +kernel
theorem dL_act_80 : decode cL_act 80 = .ok (.isub, 1) := by decide +kernel
theorem dL_act_81 : decode cL_act 81 = .ok (.iaload, 1) := by decide +kernel
theorem dL_act_82 : decode cL_act 82 = .ok (.invokevirtual 28, 3) := by decide +kernel
theorem dL_act_85 : decode cL_act 85 = .ok (.aload_n 1, 1) := by decide +kernel
theorem dL_act_86 : decode cL_act 86 = .ok (.getfield 21, 3) := by decide +kernel
theorem dL_act_89 : decode cL_act 89 = .ok (.iconst 1, 1) := by decide +kernel
theorem dL_act_90 : decode cL_act 90 = .ok (.isub, 1) := by decide +kernel
theorem dL_act_91 : decode cL_act 91 = .ok (.if_icmp .ne 7, 3) := by decide +kernel
theorem dL_act_94 : decode cL_act 94 = .ok (.iconst 1, 1) := by decide +kernel
theorem dL_act_95 : decode cL_act 95 = .ok (.goto 4, 3) := by decide +kernel
theorem dL_act_98 : decode cL_act 98 = .ok (.iconst 0, 1) := by decide +kernel
theorem dL_act_99 : decode cL_act 99 = .ok (.ireturn, 1) := by decide +kernel
theorem dL_act_100 : decode cL_act 100 = .ok (.iload_n 2, 1) := by decide +kernel
theorem dL_act_101 : decode cL_act 101 = .ok (.iconst 1, 1) := by decide +kernel
theorem dL_act_102 : decode cL_act 102 = .ok (.ishr, 1) := by decide +kernel
theorem dL_act_103 : decode cL_act 103 = .ok (.aload_n 1, 1) := by decide +kernel
theorem dL_act_104 : decode cL_act 104 = .ok (.getfield 21, 3) := by decide +kernel
theorem dL_act_107 : decode cL_act 107 = .ok (.invokestatic 15, 3) := by decide +kernel
theorem dL_act_110 : decode cL_act 110 = .ok (.istore 5, 2) := by decide +kernel
theorem dL_act_112 : decode cL_act 112 = .ok (.iload_n 2, 1) := by decide +kernel
theorem dL_act_113 : decode cL_act 113 = .ok (.iconst 4, 1) := by decide +kernel
theorem dL_act_114 : decode cL_act 114 = .ok (.ishr, 1) := by decide +kernel
theorem dL_act_115 : decode cL_act 115 = .ok (.aload_n 1, 1) := by decide +kernel
theorem dL_act_116 : decode cL_act 116 = .ok (.getfield 21, 3) := by decide +kernel
theorem dL_act_119 : decode cL_act 119 = .ok (.invokestatic 15, 3) := by decide +kernel
theorem dL_act_122 : decode cL_act 122 = .ok (.istore 6, 2) := by decide +kernel
theorem dL_act_124 : decode cL_act 124 = .ok (.iload_n 3, 1) := by decide +kernel
theorem dL_act_125 : decode cL_act 125 = .ok (.ifCond .ne 7, 3) := by decide +kernel
theorem dL_act_128 : decode cL_act 128 = .ok (.iconst 0, 1) := by decide +kernel
theorem dL_act_129 : decode cL_act 129 = .ok (.goto 10, 3) := by decide +kernel
theorem dL_act_132 : decode cL_act 132 = .ok (.iload_n 2, 1) := by decide +kernel
theorem dL_act_133 : decode cL_act 133 = .ok (.iconst 3, 1) := by decide +kernel
theorem dL_act_134 : decode cL_act 134 = .ok (.ishr, 1) := by decide +kernel
theorem dL_act_135 : decode cL_act 135 = .ok (.iload_n 3, 1) := by decide +kernel
theorem dL_act_136 : decode cL_act 136 = .ok (.invokestatic 15, 3) := by decide +kernel
theorem dL_act_139 : decode cL_act 139 = .ok (.istore 7, 2) := by decide +kernel
theorem dL_act_141 : decode cL_act 141 = .ok (.iload 4, 2) := by decide +kernel
theorem dL_act_143 : decode cL_act 143 = .ok (.tableswitch 753 3 19 #[81, 81, 81, 145, 145, 145, 145, 200, 239, 276, 315, 456, 456, 456, 456, 576, 660], 81) := by decide +kernel
theorem dL_act_224 : decode cL_act 224 = .ok (.iload 5, 2) := by decide +kernel
theorem dL_act_226 : decode cL_act 226 = .ok (.iload 6, 2) := by decide +kernel
theorem dL_act_228 : decode cL_act 228 = .ok (.if_icmp .ne 5, 3) := by decide +kernel
theorem dL_act_231 : decode cL_act 231 = .ok (.iconst 1, 1) := by decide +kernel
theorem dL_act_232 : decode cL_act 232 = .ok (.ireturn, 1) := by decide +kernel
theorem dL_act_233 : decode cL_act 233 = .ok (.aload_n 1, 1) := by decide +kernel
theorem dL_act_234 : decode cL_act 234 = .ok (.getfield 34, 3) := by decide +kernel
theorem dL_act_237 : decode cL_act 237 = .ok (.iload 5, 2) := by decide +kernel
theorem dL_act_239 : decode cL_act 239 = .ok (.aaload, 1) := by decide +kernel
theorem dL_act_240 : decode cL_act 240 = .ok (.iload 6, 2) := by decide +kernel
theorem dL_act_242 : decode cL_act 242 = .ok (.aload_n 1, 1) := by decide +kernel
theorem dL_act_243 : decode cL_act 243 = .ok (.getfield 34, 3) := by decide +kernel
theorem dL_act_246 : decode cL_act 246 = .ok (.iload 5, 2) := by decide +kernel
theorem dL_act_248 : decode cL_act 248 = .ok (.aaload, 1) := by decide +kernel
theorem dL_act_249 : decode cL_act 249 = .ok (.iload 6, 2) := by decide +kernel
theorem dL_act_251 : decode cL_act 251 = .ok (.baload, 1) := by decide +kernel
theorem dL_act_252 : decode cL_act 252 = .ok (.ifCond .ne 7, 3) := by decide +kernel
theorem dL_act_255 : decode cL_act 255 = .ok (.iconst 1, 1) := by decide +kernel
theorem dL_act_256 : decode cL_act 256 = .ok (.goto 4, 3) := by decide +kernel
theorem dL_act_259 : decode cL_act 259 = .ok (.iconst 0, 1) := by decide +kernel
theorem dL_act_260 : decode cL_act 260 = .ok (.bastore, 1) := by decide +kernel
theorem dL_act_261 : decode cL_act 261 = .ok (.aload_n 0, 1) := by decide +kernel
theorem dL_act_262 : decode cL_act 262 = .ok (.iload 5, 2) := by decide +kernel
theorem dL_act_264 : decode cL_act 264 = .ok (.iload 6, 2) := by decide +kernel
theorem dL_act_266 : decode cL_act 266 = .ok (.invokevirtual 38, 3) := by decide +kernel
theorem dL_act_269 : decode cL_act 269 = .ok (.aload_n 1, 1) := by decide +kernel
theorem dL_act_270 : decode cL_act 270 = .ok (.getfield 34, 3) := by decide +kernel
theorem dL_act_273 : decode cL_act 273 = .ok (.iload 5, 2) := by decide +kernel
theorem dL_act_275 : decode cL_act 275 = .ok (.aaload, 1) := by decide +kernel
theorem dL_act_276 : decode cL_act 276 = .ok (.iload 6, 2) := by decide +kernel
theorem dL_act_278 : decode cL_act 278 = .ok (.baload, 1) := by decide +kernel
theorem dL_act_279 : decode cL_act 279 = .ok (.if_icmp .ne 7, 3) := by decide +kernel
theorem dL_act_282 : decode cL_act 282 = .ok (.iconst 1, 1) := by decide +kernel
theorem dL_act_283 : decode cL_act 283 = .ok (.goto 4, 3) := by decide +kernel
theorem dL_act_286 : decode cL_act 286 = .ok (.iconst 0, 1) := by decide +kernel
theorem dL_act_287 : decode cL_act 287 = .ok (.ireturn, 1) := by decide +kernel
theorem dL_act_288 : decode cL_act 288 = .ok (.aload_n 1, 1) := by decide +kernel
theorem dL_act_289 : decode cL_act 289 = .ok (.getfield 42, 3) := by decide +kernel
theorem dL_act_292 : decode cL_act 292 = .ok (.iload 5, 2) := by decide +kernel
theorem dL_act_294 : decode cL_act 294 = .ok (.aaload, 1) := by decide +kernel
theorem dL_act_295 : decode cL_act 295 = .ok (.iload 6, 2) := by decide +kernel
theorem dL_act_297 : decode cL_act 297 = .ok (.aload_n 1, 1) := by decide +kernel
theorem dL_act_298 : decode cL_act 298 = .ok (.getfield 42, 3) := by decide +kernel
theorem dL_act_301 : decode cL_act 301 = .ok (.iload 5, 2) := by decide +kernel
theorem dL_act_303 : decode cL_act 303 = .ok (.aaload, 1) := by decide +kernel
theorem dL_act_304 : decode cL_act 304 = .ok (.iload 6, 2) := by decide +kernel
theorem dL_act_306 : decode cL_act 306 = .ok (.baload, 1) := by decide +kernel
theorem dL_act_307 : decode cL_act 307 = .ok (.ifCond .ne 7, 3) := by decide +kernel
theorem dL_act_310 : decode cL_act 310 = .ok (.iconst 1, 1) := by decide +kernel
theorem dL_act_311 : decode cL_act 311 = .ok (.goto 4, 3) := by decide +kernel
theorem dL_act_314 : decode cL_act 314 = .ok (.iconst 0, 1) := by decide +kernel
theorem dL_act_315 : decode cL_act 315 = .ok (.bastore, 1) := by decide +kernel
theorem dL_act_316 : decode cL_act 316 = .ok (.aload_n 0, 1) := by decide +kernel
theorem dL_act_317 : decode cL_act 317 = .ok (.iload 5, 2) := by decide +kernel
theorem dL_act_319 : decode cL_act 319 = .ok (.iload 6, 2) := by decide +kernel
theorem dL_act_321 : decode cL_act 321 = .ok (.invokevirtual 45, 3) := by decide +kernel
theorem dL_act_324 : decode cL_act 324 = .ok (.aload_n 1, 1) := by decide +kernel
theorem dL_act_325 : decode cL_act 325 = .ok (.getfield 42, 3) := by decide +kernel
theorem dL_act_328 : decode cL_act 328 = .ok (.iload 5, 2) := by decide +kernel
theorem dL_act_330 : decode cL_act 330 = .ok (.aaload, 1) := by decide +kernel
theorem dL_act_331 : decode cL_act 331 = .ok (.iload 6, 2) := by decide +kernel
theorem dL_act_333 : decode cL_act 333 = .ok (.baload, 1) := by decide +kernel
theorem dL_act_334 : decode cL_act 334 = .ok (.if_icmp .ne 7, 3) := by decide +kernel
theorem dL_act_337 : decode cL_act 337 = .ok (.iconst 1, 1) := by decide +kernel
theorem dL_act_338 : decode cL_act 338 = .ok (.goto 4, 3) := by decide +kernel
theorem dL_act_341 : decode cL_act 341 = .ok (.iconst 0, 1) := by decide +kernel
theorem dL_act_342 : decode cL_act 342 = .ok (.ireturn, 1) := by decide +kernel
theorem dL_act_343 : decode cL_act 343 = .ok (.aload_n 1, 1) := by decide +kernel
theorem dL_act_344 : decode cL_act 344 = .ok (.getfield 48, 3) := by decide +kernel
theorem dL_act_347 : decode cL_act 347 = .ok (.istore 8, 2) := by decide +kernel
theorem dL_act_349 : decode cL_act 349 = .ok (.aload_n 1, 1) := by decide +kernel
theorem dL_act_350 : decode cL_act 350 = .ok (.iconst 3, 1) := by decide +kernel
theorem dL_act_351 : decode cL_act 351 = .ok (.iload_n 2, 1) := by decide +kernel
theorem dL_act_352 : decode cL_act 352 = .ok (.iconst 2, 1) := by decide +kernel
theorem dL_act_353 : decode cL_act 353 = .ok (.ishr, 1) := by decide +kernel
theorem dL_act_354 : decode cL_act 354 = .ok (.bipush 13, 2) := by decide +kernel
theorem dL_act_356 : decode cL_act 356 = .ok (.invokestatic 15, 3) := by decide +kernel
theorem dL_act_359 : decode cL_act 359 = .ok (.iadd, 1) := by decide +kernel
theorem dL_act_360 : decode cL_act 360 = .ok (.putfield 48, 3) := by decide +kernel
theorem dL_act_363 : decode cL_act 363 = .ok (.aload_n 0, 1) := by decide +kernel
theorem dL_act_364 : decode cL_act 364 = .ok (.aload_n 1, 1) := by decide +kernel
theorem dL_act_365 : decode cL_act 365 = .ok (.getfield 48, 3) := by decide +kernel
theorem dL_act_368 : decode cL_act 368 = .ok (.invokevirtual 51, 3) := by decide +kernel
theorem dL_act_371 : decode cL_act 371 = .ok (.iload 8, 2) := by decide +kernel
theorem dL_act_373 : decode cL_act 373 = .ok (.if_icmp .ne 7, 3) := by decide +kernel
theorem dL_act_376 : decode cL_act 376 = .ok (.iconst 1, 1) := by decide +kernel
theorem dL_act_377 : decode cL_act 377 = .ok (.goto 4, 3) := by decide +kernel
theorem dL_act_380 : decode cL_act 380 = .ok (.iconst 0, 1) := by decide +kernel
theorem dL_act_381 : decode cL_act 381 = .ok (.ireturn, 1) := by decide +kernel
theorem dL_act_382 : decode cL_act 382 = .ok (.aload_n 1, 1) := by decide +kernel
theorem dL_act_383 : decode cL_act 383 = .ok (.getfield 54, 3) := by decide +kernel
theorem dL_act_386 : decode cL_act 386 = .ok (.istore 9, 2) := by decide +kernel
theorem dL_act_388 : decode cL_act 388 = .ok (.aload_n 1, 1) := by decide +kernel
theorem dL_act_389 : decode cL_act 389 = .ok (.iload_n 2, 1) := by decide +kernel
theorem dL_act_390 : decode cL_act 390 = .ok (.iconst 2, 1) := by decide +kernel
theorem dL_act_391 : decode cL_act 391 = .ok (.ishr, 1) := by decide +kernel
theorem dL_act_392 : decode cL_act 392 = .ok (.bipush 21, 2) := by decide +kernel
theorem dL_act_394 : decode cL_act 394 = .ok (.invokestatic 15, 3) := by decide +kernel
theorem dL_act_397 : decode cL_act 397 = .ok (.putfield 54, 3) := by decide +kernel
theorem dL_act_400 : decode cL_act 400 = .ok (.aload_n 0, 1) := by decide +kernel
theorem dL_act_401 : decode cL_act 401 = .ok (.aload_n 1, 1) := by decide +kernel
theorem dL_act_402 : decode cL_act 402 = .ok (.getfield 54, 3) := by decide +kernel
theorem dL_act_405 : decode cL_act 405 = .ok (.invokevirtual 57, 3) := by decide +kernel
theorem dL_act_408 : decode cL_act 408 = .ok (.iload 9, 2) := by decide +kernel
theorem dL_act_410 : decode cL_act 410 = .ok (.if_icmp .ne 7, 3) := by decide +kernel
theorem dL_act_413 : decode cL_act 413 = .ok (.iconst 1, 1) := by decide +kernel
theorem dL_act_414 : decode cL_act 414 = .ok (.goto 4, 3) := by decide +kernel
theorem dL_act_417 : decode cL_act 417 = .ok (.iconst 0, 1) := by decide +kernel
theorem dL_act_418 : decode cL_act 418 = .ok (.ireturn, 1) := by decide +kernel
theorem dL_act_419 : decode cL_act 419 = .ok (.aload_n 1, 1) := by decide +kernel
theorem dL_act_420 : decode cL_act 420 = .ok (.getfield 60, 3) := by decide +kernel
theorem dL_act_423 : decode cL_act 423 = .ok (.istore 10, 2) := by decide +kernel
theorem dL_act_425 : decode cL_act 425 = .ok (.aload_n 1, 1) := by decide +kernel
theorem dL_act_426 : decode cL_act 426 = .ok (.iconst 1, 1) := by decide +kernel
theorem dL_act_427 : decode cL_act 427 = .ok (.iload_n 2, 1) := by decide +kernel
theorem dL_act_428 : decode cL_act 428 = .ok (.iconst 2, 1) := by decide +kernel
theorem dL_act_429 : decode cL_act 429 = .ok (.ishr, 1) := by decide +kernel
theorem dL_act_430 : decode cL_act 430 = .ok (.bipush 50, 2) := by decide +kernel
theorem dL_act_432 : decode cL_act 432 = .ok (.invokestatic 15, 3) := by decide +kernel
theorem dL_act_435 : decode cL_act 435 = .ok (.iadd, 1) := by decide +kernel
theorem dL_act_436 : decode cL_act 436 = .ok (.putfield 60, 3) := by decide +kernel
theorem dL_act_439 : decode cL_act 439 = .ok (.aload_n 0, 1) := by decide +kernel
theorem dL_act_440 : decode cL_act 440 = .ok (.aload_n 1, 1) := by decide +kernel
theorem dL_act_441 : decode cL_act 441 = .ok (.getfield 60, 3) := by decide +kernel
theorem dL_act_444 : decode cL_act 444 = .ok (.invokevirtual 63, 3) := by decide +kernel
theorem dL_act_447 : decode cL_act 447 = .ok (.iload 10, 2) := by decide +kernel
theorem dL_act_449 : decode cL_act 449 = .ok (.if_icmp .ne 7, 3) := by decide +kernel
theorem dL_act_452 : decode cL_act 452 = .ok (.iconst 1, 1) := by decide +kernel
theorem dL_act_453 : decode cL_act 453 = .ok (.goto 4, 3) := by decide +kernel
theorem dL_act_456 : decode cL_act 456 = .ok (.iconst 0, 1) := by decide +kernel
theorem dL_act_457 : decode cL_act 457 = .ok (.ireturn, 1) := by decide +kernel
theorem dL_act_458 : decode cL_act 458 = .ok (.iload_n 3, 1) := by decide +kernel
theorem dL_act_459 : decode cL_act 459 = .ok (.ifCond .ne 5, 3) := by decide +kernel
theorem dL_act_462 : decode cL_act 462 = .ok (.iconst 1, 1) := by decide +kernel
theorem dL_act_463 : decode cL_act 463 = .ok (.ireturn, 1) := by decide +kernel
theorem dL_act_464 : decode cL_act 464 = .ok (.iload_n 3, 1) := by decide +kernel
theorem dL_act_465 : decode cL_act 465 = .ok (.iconst 1, 1) := by decide +kernel
theorem dL_act_466 : decode cL_act 466 = .ok (.isub, 1) := by decide +kernel
theorem dL_act_467 : decode cL_act 467 = .ok (.newarray .int, 2) := by decide +kernel
theorem dL_act_469 : decode cL_act 469 = .ok (.astore 11, 2) := by decide +kernel
theorem dL_act_471 : decode cL_act 471 = .ok (.iload_n 3, 1) := by decide +kernel
theorem dL_act_472 : decode cL_act 472 = .ok (.iconst 1, 1) := by decide +kernel
theorem dL_act_473 : decode cL_act 473 = .ok (.isub, 1) := by decide +kernel
theorem dL_act_474 : decode cL_act 474 = .ok (.newarray .boolean, 2) := by decide +kernel
theorem dL_act_476 : decode cL_act 476 = .ok (.astore 12, 2) := by decide +kernel
theorem dL_act_478 : decode cL_act 478 = .ok (.iconst 0, 1) := by decide +kernel
theorem dL_act_479 : decode cL_act 479 = .ok (.istore 13, 2) := by decide +kernel
theorem dL_act_481 : decode cL_act 481 = .ok (.iload 13, 2) := by decide +kernel
theorem dL_act_483 : decode cL_act 483 = .ok (.iload_n 3, 1) := by decide +kernel
theorem dL_act_484 : decode cL_act 484 = .ok (.iconst 1, 1) := by decide +kernel
theorem dL_act_485 : decode cL_act 485 = .ok (.isub, 1) := by decide +kernel
theorem dL_act_486 : decode cL_act 486 = .ok (.if_icmp .ge 83, 3) := by decide +kernel
theorem dL_act_489 : decode cL_act 489 = .ok (.aload 11, 2) := by decide +kernel
theorem dL_act_491 : decode cL_act 491 = .ok (.iload 13, 2) := by decide +kernel
theorem dL_act_493 : decode cL_act 493 = .ok (.aload_n 1, 1) := by decide +kernel
theorem dL_act_494 : decode cL_act 494 = .ok (.getfield 9, 3) := by decide +kernel
theorem dL_act_497 : decode cL_act 497 = .ok (.iload 13, 2) := by decide +kernel
theorem dL_act_499 : decode cL_act 499 = .ok (.iload 7, 2) := by decide +kernel
theorem dL_act_501 : decode cL_act 501 = .ok (.if_icmp .ge 8, 3) := by decide +kernel
theorem dL_act_504 : decode cL_act 504 = .ok (.iload 13, 2) := by decide +kernel
theorem dL_act_506 : decode cL_act 506 = .ok (.goto 7, 3) := by decide +kernel
theorem dL_act_509 : decode cL_act 509 = .ok (.iload 13, 2) := by decide +kernel
theorem dL_act_511 : decode cL_act 511 = .ok (.iconst 1, 1) := by decide +kernel
theorem dL_act_512 : decode cL_act 512 = .ok (.iadd, 1) := by decide +kernel
theorem dL_act_513 : decode cL_act 513 = .ok (.iaload, 1) := by decide +kernel
theorem dL_act_514 : decode cL_act 514 = .ok (.iastore, 1) := by decide +kernel
theorem dL_act_515 : decode cL_act 515 = .ok (.aload 12, 2) := by decide +kernel
theorem dL_act_517 : decode cL_act 517 = .ok (.iload 13, 2) := by decide +kernel
theorem dL_act_519 : decode cL_act 519 = .ok (.iload 13, 2) := by decide +kernel
theorem dL_act_521 : decode cL_act 521 = .ok (.iload 7, 2) := by decide +kernel
theorem dL_act_523 : decode cL_act 523 = .ok (.if_icmp .ge 30, 3) := by decide +kernel
theorem dL_act_526 : decode cL_act 526 = .ok (.iload 13, 2) := by decide +kernel
theorem dL_act_528 : decode cL_act 528 = .ok (.iload 7, 2) := by decide +kernel
theorem dL_act_530 : decode cL_act 530 = .ok (.iconst 1, 1) := by decide +kernel
theorem dL_act_531 : decode cL_act 531 = .ok (.isub, 1) := by decide +kernel
theorem dL_act_532 : decode cL_act 532 = .ok (.if_icmp .eq 17, 3) := by decide +kernel
theorem dL_act_535 : decode cL_act 535 = .ok (.aload_n 1, 1) := by decide +kernel
theorem dL_act_536 : decode cL_act 536 = .ok (.getfield 66, 3) := by decide +kernel
theorem dL_act_539 : decode cL_act 539 = .ok (.iload 13, 2) := by decide +kernel
theorem dL_act_541 : decode cL_act 541 = .ok (.baload, 1) := by decide +kernel
theorem dL_act_542 : decode cL_act 542 = .ok (.ifCond .eq 7, 3) := by decide +kernel
theorem dL_act_545 : decode cL_act 545 = .ok (.iconst 1, 1) := by decide +kernel
theorem dL_act_546 : decode cL_act 546 = .ok (.goto 16, 3) := by decide +kernel
theorem dL_act_549 : decode cL_act 549 = .ok (.iconst 0, 1) := by decide +kernel
theorem dL_act_550 : decode cL_act 550 = .ok (.goto 12, 3) := by decide +kernel
theorem dL_act_553 : decode cL_act 553 = .ok (.aload_n 1, 1) := by decide +kernel
theorem dL_act_554 : decode cL_act 554 = .ok (.getfield 66, 3) := by decide +kernel
theorem dL_act_557 : decode cL_act 557 = .ok (.iload 13, 2) := by decide +kernel
theorem dL_act_559 : decode cL_act 559 = .ok (.iconst 1, 1) := by decide +kernel
theorem dL_act_560 : decode cL_act 560 = .ok (.iadd, 1) := by decide +kernel
theorem dL_act_561 : decode cL_act 561 = .ok (.baload, 1) := by decide +kernel
theorem dL_act_562 : decode cL_act 562 = .ok (.bastore, 1) := by decide +kernel
theorem dL_act_563 : decode cL_act 563 = .ok (.iinc 13 1, 3) := by decide +kernel
theorem dL_act_566 : decode cL_act 566 = .ok (.goto (-85), 3) := by decide +kernel
theorem dL_act_569 : decode cL_act 569 = .ok (.aload_n 1, 1) := by decide +kernel
theorem dL_act_570 : decode cL_act 570 = .ok (.aload 11, 2) := by decide +kernel
theorem dL_act_572 : decode cL_act 572 = .ok (.putfield 9, 3) := by decide +kernel
theorem dL_act_575 : decode cL_act 575 = .ok (.aload_n 1, 1) := by decide +kernel
theorem dL_act_576 : decode cL_act 576 = .ok (.aload 12, 2) := by decide +kernel
theorem dL_act_578 : decode cL_act 578 = .ok (.putfield 66, 3) := by decide +kernel
theorem dL_act_581 : decode cL_act 581 = .ok (.aload_n 0, 1) := by decide +kernel
theorem dL_act_582 : decode cL_act 582 = .ok (.iload 7, 2) := by decide +kernel
theorem dL_act_584 : decode cL_act 584 = .ok (.invokevirtual 70, 3) := by decide +kernel
theorem dL_act_587 : decode cL_act 587 = .ok (.iload_n 3, 1) := by decide +kernel
theorem dL_act_588 : decode cL_act 588 = .ok (.iconst 1, 1) := by decide +kernel
theorem dL_act_589 : decode cL_act 589 = .ok (.isub, 1) := by decide +kernel
theorem dL_act_590 : decode cL_act 590 = .ok (.if_icmp .ne 7, 3) := by decide +kernel
theorem dL_act_593 : decode cL_act 593 = .ok (.iconst 1, 1) := by decide +kernel
theorem dL_act_594 : decode cL_act 594 = .ok (.goto 4, 3) := by decide +kernel
theorem dL_act_597 : decode cL_act 597 = .ok (.iconst 0, 1) := by decide +kernel
theorem dL_act_598 : decode cL_act 598 = .ok (.ireturn, 1) := by decide +kernel
theorem dL_act_599 : decode cL_act 599 = .ok (.iload 7, 2) := by decide +kernel
theorem dL_act_601 : decode cL_act 601 = .ok (.iload_n 3, 1) := by decide +kernel
theorem dL_act_602 : decode cL_act 602 = .ok (.iconst 2, 1) := by decide +kernel
theorem dL_act_603 : decode cL_act 603 = .ok (.isub, 1) := by decide +kernel
theorem dL_act_604 : decode cL_act 604 = .ok (.if_icmp .le 5, 3) := by decide +kernel
theorem dL_act_607 : decode cL_act 607 = .ok (.iconst 1, 1) := by decide +kernel
theorem dL_act_608 : decode cL_act 608 = .ok (.ireturn, 1) := by decide +kernel
theorem dL_act_609 : decode cL_act 609 = .ok (.aload_n 1, 1) := by decide +kernel
theorem dL_act_610 : decode cL_act 610 = .ok (.getfield 66, 3) := by decide +kernel
theorem dL_act_613 : decode cL_act 613 = .ok (.iload 7, 2) := by decide +kernel
theorem dL_act_615 : decode cL_act 615 = .ok (.baload, 1) := by decide +kernel
theorem dL_act_616 : decode cL_act 616 = .ok (.ifCond .ne 59, 3) := by decide +kernel
theorem dL_act_619 : decode cL_act 619 = .ok (.aload_n 1, 1) := by decide +kernel
theorem dL_act_620 : decode cL_act 620 = .ok (.getfield 42, 3) := by decide +kernel
theorem dL_act_623 : decode cL_act 623 = .ok (.aload_n 1, 1) := by decide +kernel
theorem dL_act_624 : decode cL_act 624 = .ok (.getfield 9, 3) := by decide +kernel
theorem dL_act_627 : decode cL_act 627 = .ok (.iload 7, 2) := by decide +kernel
theorem dL_act_629 : decode cL_act 629 = .ok (.iaload, 1) := by decide +kernel
theorem dL_act_630 : decode cL_act 630 = .ok (.aaload, 1) := by decide +kernel
theorem dL_act_631 : decode cL_act 631 = .ok (.aload_n 1, 1) := by decide +kernel
theorem dL_act_632 : decode cL_act 632 = .ok (.getfield 9, 3) := by decide +kernel
theorem dL_act_635 : decode cL_act 635 = .ok (.iload 7, 2) := by decide +kernel
theorem dL_act_637 : decode cL_act 637 = .ok (.iconst 1, 1) := by decide +kernel
theorem dL_act_638 : decode cL_act 638 = .ok (.iadd, 1) := by decide +kernel
theorem dL_act_639 : decode cL_act 639 = .ok (.iaload, 1) := by decide +kernel
theorem dL_act_640 : decode cL_act 640 = .ok (.baload, 1) := by decide +kernel
theorem dL_act_641 : decode cL_act 641 = .ok (.ifCond .eq 32, 3) := by decide +kernel
theorem dL_act_644 : decode cL_act 644 = .ok (.aload_n 1, 1) := by decide +kernel
theorem dL_act_645 : decode cL_act 645 = .ok (.getfield 66, 3) := by decide +kernel
theorem dL_act_648 : decode cL_act 648 = .ok (.iload 7, 2) := by decide +kernel
theorem dL_act_650 : decode cL_act 650 = .ok (.iconst 1, 1) := by decide +kernel
theorem dL_act_651 : decode cL_act 651 = .ok (.iadd, 1) := by decide +kernel
theorem dL_act_652 : decode cL_act 652 = .ok (.baload, 1) := by decide +kernel
theorem dL_act_653 : decode cL_act 653 = .ok (.ifCond .ne 20, 3) := by decide +kernel
theorem dL_act_656 : decode cL_act 656 = .ok (.iload 7, 2) := by decide +kernel
theorem dL_act_658 : decode cL_act 658 = .ok (.ifCond .le 17, 3) := by decide +kernel
theorem dL_act_661 : decode cL_act 661 = .ok (.aload_n 1, 1) := by decide +kernel
theorem dL_act_662 : decode cL_act 662 = .ok (.getfield 66, 3) := by decide +kernel
theorem dL_act_665 : decode cL_act 665 = .ok (.iload 7, 2) := by decide +kernel
theorem dL_act_667 : decode cL_act 667 = .ok (.iconst 1, 1) := by decide +kernel
theorem dL_act_668 : decode cL_act 668 = .ok (.isub, 1) := by decide +kernel
theorem dL_act_669 : decode cL_act 669 = .ok (.baload, 1) := by decide +kernel
theorem dL_act_670 : decode cL_act 670 = .ok (.ifCond .eq 5, 3) := by decide +kernel
theorem dL_act_673 : decode cL_act 673 = .ok (.iconst 1, 1) := by decide +kernel
theorem dL_act_674 : decode cL_act 674 = .ok (.ireturn, 1) := by decide +kernel
theorem dL_act_675 : decode cL_act 675 = .ok (.aload_n 1, 1) := by decide +kernel
theorem dL_act_676 : decode cL_act 676 = .ok (.getfield 66, 3) := by decide +kernel
theorem dL_act_679 : decode cL_act 679 = .ok (.iload 7, 2) := by decide +kernel
theorem dL_act_681 : decode cL_act 681 = .ok (.aload_n 1, 1) := by decide +kernel
theorem dL_act_682 : decode cL_act 682 = .ok (.getfield 66, 3) := by decide +kernel
theorem dL_act_685 : decode cL_act 685 = .ok (.iload 7, 2) := by decide +kernel
theorem dL_act_687 : decode cL_act 687 = .ok (.baload, 1) := by decide +kernel
theorem dL_act_688 : decode cL_act 688 = .ok (.ifCond .ne 7, 3) := by decide +kernel
theorem dL_act_691 : decode cL_act 691 = .ok (.iconst 1, 1) := by decide +kernel
theorem dL_act_692 : decode cL_act 692 = .ok (.goto 4, 3) := by decide +kernel
theorem dL_act_695 : decode cL_act 695 = .ok (.iconst 0, 1) := by decide +kernel
theorem dL_act_696 : decode cL_act 696 = .ok (.bastore, 1) := by decide +kernel
theorem dL_act_697 : decode cL_act 697 = .ok (.aload_n 0, 1) := by decide +kernel
theorem dL_act_698 : decode cL_act 698 = .ok (.iload 7, 2) := by decide +kernel
theorem dL_act_700 : decode cL_act 700 = .ok (.invokevirtual 73, 3) := by decide +kernel
theorem dL_act_703 : decode cL_act 703 = .ok (.aload_n 1, 1) := by decide +kernel
theorem dL_act_704 : decode cL_act 704 = .ok (.getfield 66, 3) := by decide +kernel
theorem dL_act_707 : decode cL_act 707 = .ok (.iload 7, 2) := by decide +kernel
theorem dL_act_709 : decode cL_act 709 = .ok (.baload, 1) := by decide +kernel
theorem dL_act_710 : decode cL_act 710 = .ok (.if_icmp .ne 7, 3) := by decide +kernel
theorem dL_act_713 : decode cL_act 713 = .ok (.iconst 1, 1) := by decide +kernel
theorem dL_act_714 : decode cL_act 714 = .ok (.goto 4, 3) := by decide +kernel
theorem dL_act_717 : decode cL_act 717 = .ok (.iconst 0, 1) := by decide +kernel
theorem dL_act_718 : decode cL_act 718 = .ok (.ireturn, 1) := by decide +kernel
theorem dL_act_719 : decode cL_act 719 = .ok (.aload_n 1, 1) := by decide +kernel
theorem dL_act_720 : decode cL_act 720 = .ok (.invokevirtual 77, 3) := by decide +kernel
theorem dL_act_723 : decode cL_act 723 = .ok (.istore 13, 2) := by decide +kernel
theorem dL_act_725 : decode cL_act 725 = .ok (.aload_n 1, 1) := by decide +kernel
theorem dL_act_726 : decode cL_act 726 = .ok (.invokevirtual 81, 3) := by decide +kernel
theorem dL_act_729 : decode cL_act 729 = .ok (.astore 14, 2) := by decide +kernel
theorem dL_act_731 : decode cL_act 731 = .ok (.iconst 0, 1) := by decide +kernel
theorem dL_act_732 : decode cL_act 732 = .ok (.istore 15, 2) := by decide +kernel
theorem dL_act_734 : decode cL_act 734 = .ok (.iload 15, 2) := by decide +kernel
theorem dL_act_736 : decode cL_act 736 = .ok (.iload_n 3, 1) := by decide +kernel
theorem dL_act_737 : decode cL_act 737 = .ok (.if_icmp .ge 46, 3) := by decide +kernel
theorem dL_act_740 : decode cL_act 740 = .ok (.aload_n 1, 1) := by decide +kernel
theorem dL_act_741 : decode cL_act 741 = .ok (.getfield 9, 3) := by decide +kernel
theorem dL_act_744 : decode cL_act 744 = .ok (.iload 15, 2) := by decide +kernel
theorem dL_act_746 : decode cL_act 746 = .ok (.aload 14, 2) := by decide +kernel
theorem dL_act_748 : decode cL_act 748 = .ok (.iload 15, 2) := by decide +kernel
theorem dL_act_750 : decode cL_act 750 = .ok (.iaload, 1) := by decide +kernel
theorem dL_act_751 : decode cL_act 751 = .ok (.bipush 100, 2) := by decide +kernel
theorem dL_act_753 : decode cL_act 753 = .ok (.irem, 1) := by decide +kernel
theorem dL_act_754 : decode cL_act 754 = .ok (.iastore, 1) := by decide +kernel
theorem dL_act_755 : decode cL_act 755 = .ok (.aload_n 1, 1) := by decide +kernel
theorem dL_act_756 : decode cL_act 756 = .ok (.getfield 66, 3) := by decide +kernel
theorem dL_act_759 : decode cL_act 759 = .ok (.iload 15, 2) := by decide +kernel
theorem dL_act_761 : decode cL_act 761 = .ok (.aload 14, 2) := by decide +kernel
theorem dL_act_763 : decode cL_act 763 = .ok (.iload 15, 2) := by decide +kernel
theorem dL_act_765 : decode cL_act 765 = .ok (.iaload, 1) := by decide +kernel
theorem dL_act_766 : decode cL_act 766 = .ok (.bipush 100, 2) := by decide +kernel
theorem dL_act_768 : decode cL_act 768 = .ok (.if_icmp .lt 7, 3) := by decide +kernel
theorem dL_act_771 : decode cL_act 771 = .ok (.iconst 1, 1) := by decide +kernel
theorem dL_act_772 : decode cL_act 772 = .ok (.goto 4, 3) := by decide +kernel
theorem dL_act_775 : decode cL_act 775 = .ok (.iconst 0, 1) := by decide +kernel
theorem dL_act_776 : decode cL_act 776 = .ok (.bastore, 1) := by decide +kernel
theorem dL_act_777 : decode cL_act 777 = .ok (.iinc 15 1, 3) := by decide +kernel
theorem dL_act_780 : decode cL_act 780 = .ok (.goto (-46), 3) := by decide +kernel
theorem dL_act_783 : decode cL_act 783 = .ok (.aload_n 0, 1) := by decide +kernel
theorem dL_act_784 : decode cL_act 784 = .ok (.invokevirtual 85, 3) := by decide +kernel
theorem dL_act_787 : decode cL_act 787 = .ok (.iload 13, 2) := by decide +kernel
theorem dL_act_789 : decode cL_act 789 = .ok (.aload_n 1, 1) := by decide +kernel
theorem dL_act_790 : decode cL_act 790 = .ok (.invokevirtual 77, 3) := by decide +kernel
theorem dL_act_793 : decode cL_act 793 = .ok (.isub, 1) := by decide +kernel
theorem dL_act_794 : decode cL_act 794 = .ok (.if_icmp .ne 7, 3) := by decide +kernel
theorem dL_act_797 : decode cL_act 797 = .ok (.iconst 1, 1) := by decide +kernel
theorem dL_act_798 : decode cL_act 798 = .ok (.goto 4, 3) := by decide +kernel
theorem dL_act_801 : decode cL_act 801 = .ok (.iconst 0, 1) := by decide +kernel
theorem dL_act_802 : decode cL_act 802 = .ok (.ireturn, 1) := by decide +kernel
theorem dL_act_803 : decode cL_act 803 = .ok (.iload_n 3, 1) := by decide +kernel
theorem dL_act_804 : decode cL_act 804 = .ok (.ifCond .eq 11, 3) := by decide +kernel
theorem dL_act_807 : decode cL_act 807 = .ok (.iload_n 2, 1) := by decide +kernel
theorem dL_act_808 : decode cL_act 808 = .ok (.iconst 2, 1) := by decide +kernel
theorem dL_act_809 : decode cL_act 809 = .ok (.invokestatic 15, 3) := by decide +kernel
theorem dL_act_812 : decode cL_act 812 = .ok (.ifCond .ne 5, 3) := by decide +kernel
theorem dL_act_815 : decode cL_act 815 = .ok (.iconst 1, 1) := by decide +kernel
theorem dL_act_816 : decode cL_act 816 = .ok (.ireturn, 1) := by decide +kernel
theorem dL_act_817 : decode cL_act 817 = .ok (.iload_n 2, 1) := by decide +kernel
theorem dL_act_818 : decode cL_act 818 = .ok (.iconst 2, 1) := by decide +kernel
theorem dL_act_819 : decode cL_act 819 = .ok (.ishr, 1) := by decide +kernel
theorem dL_act_820 : decode cL_act 820 = .ok (.iconst 4, 1) := by decide +kernel
theorem dL_act_821 : decode cL_act 821 = .ok (.invokestatic 15, 3) := by decide +kernel
theorem dL_act_824 : decode cL_act 824 = .ok (.istore 15, 2) := by decide +kernel
theorem dL_act_826 : decode cL_act 826 = .ok (.aload_n 1, 1) := by decide +kernel
theorem dL_act_827 : decode cL_act 827 = .ok (.invokevirtual 77, 3) := by decide +kernel
theorem dL_act_830 : decode cL_act 830 = .ok (.aload_n 1, 1) := by decide +kernel
theorem dL_act_831 : decode cL_act 831 = .ok (.getfield 60, 3) := by decide +kernel
theorem dL_act_834 : decode cL_act 834 = .ok (.imul, 1) := by decide +kernel
theorem dL_act_835 : decode cL_act 835 = .ok (.iload 15, 2) := by decide +kernel
theorem dL_act_837 : decode cL_act 837 = .ok (.iconst 2, 1) := by decide +kernel
theorem dL_act_838 : decode cL_act 838 = .ok (.iadd, 1) := by decide +kernel
theorem dL_act_839 : decode cL_act 839 = .ok (.imul, 1) := by decide +kernel
theorem dL_act_840 : decode cL_act 840 = .ok (.iconst 2, 1) := by decide +kernel
theorem dL_act_841 : decode cL_act 841 = .ok (.idiv, 1) := by decide +kernel
theorem dL_act_842 : decode cL_act 842 = .ok (.istore 16, 2) := by decide +kernel
theorem dL_act_844 : decode cL_act 844 = .ok (.aload_n 1, 1) := by decide +kernel
theorem dL_act_845 : decode cL_act 845 = .ok (.iconst 0, 1) := by decide +kernel
theorem dL_act_846 : decode cL_act 846 = .ok (.newarray .int, 2) := by decide +kernel
theorem dL_act_848 : decode cL_act 848 = .ok (.putfield 9, 3) := by decide +kernel
theorem dL_act_851 : decode cL_act 851 = .ok (.aload_n 1, 1) := by decide +kernel
theorem dL_act_852 : decode cL_act 852 = .ok (.iconst 0, 1) := by decide +kernel
theorem dL_act_853 : decode cL_act 853 = .ok (.newarray .boolean, 2) := by decide +kernel
theorem dL_act_855 : decode cL_act 855 = .ok (.putfield 66, 3) := by decide +kernel
theorem dL_act_858 : decode cL_act 858 = .ok (.aload_n 1, 1) := by decide +kernel
theorem dL_act_859 : decode cL_act 859 = .ok (.dup, 1) := by decide +kernel
theorem dL_act_860 : decode cL_act 860 = .ok (.getfield 88, 3) := by decide +kernel
theorem dL_act_863 : decode cL_act 863 = .ok (.iconst 1, 1) := by decide +kernel
theorem dL_act_864 : decode cL_act 864 = .ok (.iadd, 1) := by decide +kernel
theorem dL_act_865 : decode cL_act 865 = .ok (.putfield 88, 3) := by decide +kernel
theorem dL_act_868 : decode cL_act 868 = .ok (.aload_n 1, 1) := by decide +kernel
theorem dL_act_869 : decode cL_act 869 = .ok (.dup, 1) := by decide +kernel
theorem dL_act_870 : decode cL_act 870 = .ok (.getfield 91, 3) := by decide +kernel
theorem dL_act_873 : decode cL_act 873 = .ok (.iload 16, 2) := by decide +kernel
theorem dL_act_875 : decode cL_act 875 = .ok (.iadd, 1) := by decide +kernel
theorem dL_act_876 : decode cL_act 876 = .ok (.putfield 91, 3) := by decide +kernel
theorem dL_act_879 : decode cL_act 879 = .ok (.aload_n 0, 1) := by decide +kernel
theorem dL_act_880 : decode cL_act 880 = .ok (.iload 15, 2) := by decide +kernel
theorem dL_act_882 : decode cL_act 882 = .ok (.invokevirtual 94, 3) := by decide +kernel
theorem dL_act_885 : decode cL_act 885 = .ok (.iload 16, 2) := by decide +kernel
theorem dL_act_887 : decode cL_act 887 = .ok (.if_icmp .ne 7, 3) := by decide +kernel
theorem dL_act_890 : decode cL_act 890 = .ok (.iconst 1, 1) := by decide +kernel
theorem dL_act_891 : decode cL_act 891 = .ok (.goto 4, 3) := by decide +kernel
theorem dL_act_894 : decode cL_act 894 = .ok (.iconst 0, 1) := by decide +kernel
theorem dL_act_895 : decode cL_act 895 = .ok (.ireturn, 1) := by decide +kernel
theorem dL_act_896 : decode cL_act 896 = .ok (.iload_n 3, 1) := by decide +kernel
theorem dL_act_897 : decode cL_act 897 = .ok (.bipush 16, 2) := by decide +kernel
theorem dL_act_899 : decode cL_act 899 = .ok (.if_icmp .ne 5, 3) := by decide +kernel
theorem dL_act_902 : decode cL_act 902 = .ok (.iconst 1, 1) := by decide +kernel
theorem dL_act_903 : decode cL_act 903 = .ok (.ireturn, 1) := by decide +kernel
theorem dL_act_904 : decode cL_act 904 = .ok (.iload_n 3, 1) := by decide +kernel
theorem dL_act_905 : decode cL_act 905 = .ok (.iconst 1, 1) := by decide +kernel
theorem dL_act_906 : decode cL_act 906 = .ok (.iadd, 1) := by decide +kernel
theorem dL_act_907 : decode cL_act 907 = .ok (.newarray .int, 2) := by decide +kernel
theorem dL_act_909 : decode cL_act 909 = .ok (.astore 17, 2) := by decide +kernel
theorem dL_act_911 : decode cL_act 911 = .ok (.iload_n 3, 1) := by decide +kernel
theorem dL_act_912 : decode cL_act 912 = .ok (.iconst 1, 1) := by decide +kernel
theorem dL_act_913 : decode cL_act 913 = .ok (.iadd, 1) := by decide +kernel
theorem dL_act_914 : decode cL_act 914 = .ok (.newarray .boolean, 2) := by decide +kernel
theorem dL_act_916 : decode cL_act 916 = .ok (.astore 18, 2) := by decide +kernel
theorem dL_act_918 : decode cL_act 918 = .ok (.iconst 0, 1) := by decide +kernel
theorem dL_act_919 : decode cL_act 919 = .ok (.istore 19, 2) := by decide +kernel
theorem dL_act_921 : decode cL_act 921 = .ok (.iload 19, 2) := by decide +kernel
theorem dL_act_923 : decode cL_act 923 = .ok (.iload_n 3, 1) := by decide +kernel
theorem dL_act_924 : decode cL_act 924 = .ok (.if_icmp .ge 33, 3) := by decide +kernel
theorem dL_act_927 : decode cL_act 927 = .ok (.aload 17, 2) := by decide +kernel
theorem dL_act_929 : decode cL_act 929 = .ok (.iload 19, 2) := by decide +kernel
theorem dL_act_931 : decode cL_act 931 = .ok (.aload_n 1, 1) := by decide +kernel
theorem dL_act_932 : decode cL_act 932 = .ok (.getfield 9, 3) := by decide +kernel
theorem dL_act_935 : decode cL_act 935 = .ok (.iload 19, 2) := by decide +kernel
theorem dL_act_937 : decode cL_act 937 = .ok (.iaload, 1) := by decide +kernel
theorem dL_act_938 : decode cL_act 938 = .ok (.iastore, 1) := by decide +kernel
theorem dL_act_939 : decode cL_act 939 = .ok (.aload 18, 2) := by decide +kernel
theorem dL_act_941 : decode cL_act 941 = .ok (.iload 19, 2) := by decide +kernel
theorem dL_act_943 : decode cL_act 943 = .ok (.aload_n 1, 1) := by decide +kernel
theorem dL_act_944 : decode cL_act 944 = .ok (.getfield 66, 3) := by decide +kernel
theorem dL_act_947 : decode cL_act 947 = .ok (.iload 19, 2) := by decide +kernel
theorem dL_act_949 : decode cL_act 949 = .ok (.baload, 1) := by decide +kernel
theorem dL_act_950 : decode cL_act 950 = .ok (.bastore, 1) := by decide +kernel
theorem dL_act_951 : decode cL_act 951 = .ok (.iinc 19 1, 3) := by decide +kernel
theorem dL_act_954 : decode cL_act 954 = .ok (.goto (-33), 3) := by decide +kernel
theorem dL_act_957 : decode cL_act 957 = .ok (.aload 17, 2) := by decide +kernel
theorem dL_act_959 : decode cL_act 959 = .ok (.iload_n 3, 1) := by decide +kernel
theorem dL_act_960 : decode cL_act 960 = .ok (.iload 5, 2) := by decide +kernel
theorem dL_act_962 : decode cL_act 962 = .ok (.iastore, 1) := by decide +kernel
theorem dL_act_963 : decode cL_act 963 = .ok (.aload_n 1, 1) := by decide +kernel
theorem dL_act_964 : decode cL_act 964 = .ok (.aload 17, 2) := by decide +kernel
theorem dL_act_966 : decode cL_act 966 = .ok (.putfield 9, 3) := by decide +kernel
theorem dL_act_969 : decode cL_act 969 = .ok (.aload_n 1, 1) := by decide +kernel
theorem dL_act_970 : decode cL_act 970 = .ok (.aload 18, 2) := by decide +kernel
theorem dL_act_972 : decode cL_act 972 = .ok (.putfield 66, 3) := by decide +kernel
theorem dL_act_975 : decode cL_act 975 = .ok (.aload_n 0, 1) := by decide +kernel
theorem dL_act_976 : decode cL_act 976 = .ok (.iload 5, 2) := by decide +kernel
theorem dL_act_978 : decode cL_act 978 = .ok (.invokevirtual 97, 3) := by decide +kernel
theorem dL_act_981 : decode cL_act 981 = .ok (.iload_n 3, 1) := by decide +kernel
theorem dL_act_982 : decode cL_act 982 = .ok (.iconst 1, 1) := by decide +kernel
theorem dL_act_983 : decode cL_act 983 = .ok (.iadd, 1) := by decide +kernel
theorem dL_act_984 : decode cL_act 984 = .ok (.if_icmp .ne 7, 3) := by decide +kernel
theorem dL_act_987 : decode cL_act 987 = .ok (.iconst 1, 1) := by decide +kernel
theorem dL_act_988 : decode cL_act 988 = .ok (.goto 4, 3) := by decide +kernel
theorem dL_act_991 : decode cL_act 991 = .ok (.iconst 0, 1) := by decide +kernel
theorem dL_act_992 : decode cL_act 992 = .ok (.ireturn, 1) := by decide +kernel
set_option maxRecDepth 20000 in
theorem ggL_build_X1_init : GoodIn wsL_build wsX1_init := goodIn_r _ [5, 6, 7, 8, 9, 10, 11, 12, 13, 14, 15, 16, 17, 18, 19, 226, 227, 228, 229, 230, 231, 232, 233, 234, 235, 236] rfl (by decide +kernel)
set_option maxRecDepth 20000 in
theorem gL_build_X1_init_n100 : GoodIn wsL_build (wsX1_init) := ggL_build_X1_init
set_option maxRecDepth 20000 in
theorem ggL_build_L_cell : GoodIn wsL_build wsL_cell := goodIn_r _ [23, 24] rfl (by decide +kernel)
set_option maxRecDepth 20000 in
theorem gL_build_L_cell : GoodIn wsL_build (va_wsS RL 101 yL_cell wsL_cell) := goodIn_app (goodIn_of _ (by decide +kernel)) ggL_build_L_cell
set_option maxRecDepth 20000 in
theorem ggL_build_L_below : GoodIn wsL_build wsL_below := goodIn_r _ [27, 28] rfl (by decide +kernel)
set_option maxRecDepth 20000 in
theorem gL_build_L_below : GoodIn wsL_build (va_wsS RL 15 yL_below wsL_below) := goodIn_app (goodIn_of _ (by decide +kernel)) ggL_build_L_below
set_option maxRecDepth 20000 in
set_option maxRecDepth 100000 in
theorem ggL_build_L_act_c : GoodIn wsL_build [.code yL_act cL_act 20 (some .boolean)] := goodIn_r _ [31] rfl (by decide +kernel)
set_option maxRecDepth 100000 in
theorem ggL_build_L_act_r1 : GoodIn wsL_build wsL_act_r1 := goodIn_r _ [32, 33, 34, 35, 36, 37, 38, 39, 12, 15, 40, 41, 42, 25, 26, 22, 27, 28, 43, 44, 45, 46, 47, 48] rfl (by decide +kernel)
set_option maxRecDepth 100000 in
theorem ggL_build_L_act_r2 : GoodIn wsL_build wsL_act_r2 := goodIn_r _ [49, 50, 51, 52, 53, 54, 55, 56, 57, 58, 59, 60, 61, 62, 63, 64, 65, 66, 67, 68, 69, 70, 71, 72] rfl (by decide +kernel)
set_option maxRecDepth 100000 in
theorem ggL_build_L_act_r3 : GoodIn wsL_build wsL_act_r3 := goodIn_r _ [73, 74, 75, 76, 77, 78, 79, 80, 81, 82, 83, 84, 85, 86, 87, 88, 89, 90, 91, 92, 93, 94, 95, 96] rfl (by decide +kernel)
set_option maxRecDepth 100000 in
theorem ggL_build_L_act_r4 : GoodIn wsL_build wsL_act_r4 := goodIn_r _ [97, 98, 99, 100, 101, 102, 103, 104, 105, 106, 107, 108, 109, 3, 110, 18, 19, 111, 112, 113, 114, 13, 115, 116] rfl (by decide +kernel)
set_option maxRecDepth 100000 in
theorem ggL_build_L_act_r5 : GoodIn wsL_build wsL_act_r5 := goodIn_r _ [117, 118, 9, 119, 120, 121, 122, 10, 123, 124, 125, 126, 127, 17, 128, 129, 130, 131, 132, 2, 16, 133, 4, 5] rfl (by decide +kernel)
set_option maxRecDepth 100000 in
theorem ggL_build_L_act_r6 : GoodIn wsL_build wsL_act_r6 := goodIn_r _ [6, 7, 8, 11, 14, 134, 135, 136, 137, 138, 139, 140, 141, 142, 143, 144, 145, 146, 147, 148, 149, 150, 151, 152] rfl (by decide +kernel)
set_option maxRecDepth 100000 in
theorem ggL_build_L_act_r7 : GoodIn wsL_build wsL_act_r7 := goodIn_r _ [153, 154, 155, 156, 157, 158, 159, 160, 161, 162, 163, 164, 165, 166, 167, 168, 169, 170, 171, 172, 173, 174, 175, 176] rfl (by decide +kernel)
set_option maxRecDepth 100000 in
theorem ggL_build_L_act_r8 : GoodIn wsL_build wsL_act_r8 := goodIn_r _ [177, 178, 179, 180, 181, 182, 183, 184, 185, 186, 187, 188, 189, 190, 191, 192, 193, 194, 195, 196, 197, 198, 199, 200] rfl (by decide +kernel)
set_option maxRecDepth 100000 in
theorem ggL_build_L_act_r9 : GoodIn wsL_build wsL_act_r9 := goodIn_r _ [201, 202, 203, 204, 205, 206, 207, 208, 209, 210, 211, 212, 213, 214, 215, 216, 217, 218, 219, 220, 221, 222, 223, 224] rfl (by decide +kernel)
set_option maxRecDepth 100000 in
theorem ggL_build_L_act_r10 : GoodIn wsL_build wsL_act_r10 := goodIn_r _ [225] rfl (by decide +kernel)
set_option maxRecDepth 100000 in
theorem ggL_build_L_act_x10 : GoodIn wsL_build wsX10 := goodIn_r _ [226, 227, 228, 229, 230, 231, 232, 233, 234, 235, 236] rfl (by decide +kernel)
set_option maxRecDepth 100000 in
theorem ggL_build_L_act_x00 : GoodIn wsL_build wsX00 := goodIn_r _ [237, 238, 239, 240, 241, 242, 243, 244, 245, 246, 247, 248, 249, 250, 251, 252, 253, 254] rfl (by decide +kernel)
theorem ggL_build_L_act : GoodIn wsL_build wsL_act := goodIn_ca (goodIn_ca (goodIn_ca (goodIn_ca (goodIn_ca (goodIn_app ggL_build_L_act_c (goodIn_app ggL_build_L_act_r1 (goodIn_app ggL_build_L_act_r2 (goodIn_app ggL_build_L_act_r3 (goodIn_app ggL_build_L_act_r4 (goodIn_app ggL_build_L_act_r5 (goodIn_app ggL_build_L_act_r6 (goodIn_app ggL_build_L_act_r7 (goodIn_app ggL_build_L_act_r8 (goodIn_app ggL_build_L_act_r9 ggL_build_L_act_r10)))))))))) ggL_build_L_act_x10) ggL_build_L_act_x00) (goodIn_sub (fun _ h => List.mem_cons_of_mem _ (List.mem_append_left _ (List.mem_append_left _ (List.mem_append_right _ h)))) (by decide +kernel))) (goodIn_sub (fun _ h => List.mem_cons_of_mem _ (List.mem_append_left _ (List.mem_append_right _ h))) (by decide +kernel))) (goodIn_sub (fun _ h => List.mem_cons_of_mem _ (List.mem_append_right _ h)) (by decide +kernel))
set_option maxRecDepth 20000 in
theorem gL_build_L_act : GoodIn wsL_build (va_wsS RL 105 yL_act wsL_act) := goodIn_app (goodIn_of _ (by decide +kernel)) ggL_build_L_act
theorem dL_build_0 : decode cL_build 0 = .ok (.new 10, 3) := by decide +kernel
theorem dL_build_3 : decode cL_build 3 = .ok (.dup, 1) := by decide +kernel
theorem dL_build_4 : decode cL_build 4 = .ok (.invokespecial 100, 3) := by decide +kernel
theorem dL_build_7 : decode cL_build 7 = .ok (.astore_n 2, 1) := by decide +kernel
theorem dL_build_8 : decode cL_build 8 = .ok (.bipush 24, 2) := by decide +kernel
theorem dL_build_10 : decode cL_build 10 = .ok (.aload_n 1, 1) := by decide +kernel
theorem dL_build_11 : decode cL_build 11 = .ok (.iconst 0, 1) := by decide +kernel
theorem dL_build_12 : decode cL_build 12 = .ok (.invokestatic 101, 3) := by decide +kernel
theorem dL_build_15 : decode cL_build 15 = .ok (.bipush 60, 2) := by decide +kernel
theorem dL_build_17 : decode cL_build 17 = .ok (.invokestatic 15, 3) := by decide +kernel
theorem dL_build_20 : decode cL_build 20 = .ok (.iadd, 1) := by decide +kernel
theorem dL_build_21 : decode cL_build 21 = .ok (.istore_n 3, 1) := by decide +kernel
theorem dL_build_22 : decode cL_build 22 = .ok (.iconst 0, 1) := by decide +kernel
theorem dL_build_23 : decode cL_build 23 = .ok (.istore 4, 2) := by decide +kernel
theorem dL_build_25 : decode cL_build 25 = .ok (.iload 4, 2) := by decide +kernel
theorem dL_build_27 : decode cL_build 27 = .ok (.iload_n 3, 1) := by decide +kernel
theorem dL_build_28 : decode cL_build 28 = .ok (.if_icmp .ge 43, 3) := by decide +kernel
theorem dL_build_31 : decode cL_build 31 = .ok (.aload_n 0, 1) := by decide +kernel
theorem dL_build_32 : decode cL_build 32 = .ok (.aload_n 2, 1) := by decide +kernel
theorem dL_build_33 : decode cL_build 33 = .ok (.aload_n 1, 1) := by decide +kernel
theorem dL_build_34 : decode cL_build 34 = .ok (.iload 4, 2) := by decide +kernel
theorem dL_build_36 : decode cL_build 36 = .ok (.bipush 16, 2) := by decide +kernel
theorem dL_build_38 : decode cL_build 38 = .ok (.irem, 1) := by decide +kernel
theorem dL_build_39 : decode cL_build 39 = .ok (.invokestatic 101, 3) := by decide +kernel
theorem dL_build_42 : decode cL_build 42 = .ok (.iload 4, 2) := by decide +kernel
theorem dL_build_44 : decode cL_build 44 = .ok (.bipush 16, 2) := by decide +kernel
theorem dL_build_46 : decode cL_build 46 = .ok (.idiv, 1) := by decide +kernel
theorem dL_build_47 : decode cL_build 47 = .ok (.iconst 3, 1) := by decide +kernel
theorem dL_build_48 : decode cL_build 48 = .ok (.imul, 1) := by decide +kernel
theorem dL_build_49 : decode cL_build 49 = .ok (.ishr, 1) := by decide +kernel
theorem dL_build_50 : decode cL_build 50 = .ok (.sipush 557, 3) := by decide +kernel
theorem dL_build_53 : decode cL_build 53 = .ok (.iload 4, 2) := by decide +kernel
theorem dL_build_55 : decode cL_build 55 = .ok (.imul, 1) := by decide +kernel
theorem dL_build_56 : decode cL_build 56 = .ok (.iadd, 1) := by decide +kernel
theorem dL_build_57 : decode cL_build 57 = .ok (.invokestatic 105, 3) := by decide +kernel
theorem dL_build_60 : decode cL_build 60 = .ok (.ifCond .ne 5, 3) := by decide +kernel
theorem dL_build_63 : decode cL_build 63 = .ok (.aconst_null, 1) := by decide +kernel
theorem dL_build_64 : decode cL_build 64 = .ok (.areturn, 1) := by decide +kernel
theorem dL_build_65 : decode cL_build 65 = .ok (.iinc 4 1, 3) := by decide +kernel
theorem dL_build_68 : decode cL_build 68 = .ok (.goto (-43), 3) := by decide +kernel
theorem dL_build_71 : decode cL_build 71 = .ok (.aload_n 2, 1) := by decide +kernel
theorem dL_build_72 : decode cL_build 72 = .ok (.areturn, 1) := by decide +kernel
