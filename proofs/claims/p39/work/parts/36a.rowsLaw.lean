set_option maxRecDepth 20000 in
theorem ggL_law_X0_init : GoodIn wsL_law wsX0_init := goodIn_r _ [19, 20, 21, 22, 11, 23, 24, 25, 26, 27, 28, 29, 30, 13, 31, 32, 33, 34, 35, 36, 37, 38, 39, 40, 355, 356, 357, 358, 359, 360, 361, 362, 363, 364, 365, 366, 367, 368, 369, 370, 371, 372] rfl (by decide +kernel)
set_option maxRecDepth 20000 in
theorem gL_law_X0_init : GoodIn wsL_law (wsX0_init) := ggL_law_X0_init
set_option maxRecDepth 20000 in
set_option maxRecDepth 100000 in
theorem ggL_law_L_build_c : GoodIn wsL_law [.code yL_build cL_build 5 (some (.object "TelegraphPricesLaw$Sim"))] := goodIn_r _ [44] rfl (by decide +kernel)
set_option maxRecDepth 100000 in
theorem ggL_law_L_build_r1 : GoodIn wsL_law wsL_build_r1 := goodIn_r _ [45, 46, 47, 48, 49, 50, 21, 22, 51, 52, 53, 11, 54, 55, 13, 56, 57, 58, 59, 60, 61, 43, 62, 63] rfl (by decide +kernel)
set_option maxRecDepth 100000 in
theorem ggL_law_L_build_r2 : GoodIn wsL_law wsL_build_r2 := goodIn_r _ [64, 65, 66, 67, 68, 69, 70, 12, 71, 72, 73, 74, 75, 76, 77, 14, 15, 16, 78, 79, 80, 2, 81, 82] rfl (by decide +kernel)
set_option maxRecDepth 100000 in
theorem ggL_law_L_build_r3 : GoodIn wsL_law wsL_build_r3 := goodIn_r _ [83, 84, 85, 26, 23, 24, 25, 86, 87, 88, 89, 90, 91, 92, 93, 94, 95, 96, 97, 98, 99, 100, 101, 102] rfl (by decide +kernel)
set_option maxRecDepth 100000 in
theorem ggL_law_L_build_r4 : GoodIn wsL_law wsL_build_r4 := goodIn_r _ [103, 104, 105, 106, 27, 107, 108, 109, 110, 28, 111, 112, 113, 114, 29, 115, 116, 117, 118, 31, 32, 30, 119, 120] rfl (by decide +kernel)
set_option maxRecDepth 100000 in
theorem ggL_law_L_build_r5 : GoodIn wsL_law wsL_build_r5 := goodIn_r _ [121, 122, 123, 124, 125, 126, 127, 128, 129, 130, 131, 132, 133, 134, 135, 136, 137, 138, 139, 140, 141, 142, 143, 144] rfl (by decide +kernel)
set_option maxRecDepth 100000 in
theorem ggL_law_L_build_r6 : GoodIn wsL_law wsL_build_r6 := goodIn_r _ [145, 146, 147, 148, 149, 150, 151, 152, 153, 154, 155, 156, 157, 158, 159, 160, 161, 162, 163, 164, 165, 166, 167, 6] rfl (by decide +kernel)
set_option maxRecDepth 100000 in
theorem ggL_law_L_build_r7 : GoodIn wsL_law wsL_build_r7 := goodIn_r _ [168, 169, 170, 171, 172, 173, 174, 175, 176, 39, 40, 177, 178, 179, 180, 181, 182, 183, 184, 185, 186, 187, 188, 189] rfl (by decide +kernel)
set_option maxRecDepth 100000 in
theorem ggL_law_L_build_r8 : GoodIn wsL_law wsL_build_r8 := goodIn_r _ [190, 191, 192, 193, 9, 10, 194, 195, 196, 197, 36, 35, 38, 198, 199, 200, 201, 202, 203, 204, 205, 206, 207, 208] rfl (by decide +kernel)
set_option maxRecDepth 100000 in
theorem ggL_law_L_build_r9 : GoodIn wsL_law wsL_build_r9 := goodIn_r _ [209, 210, 211, 212, 213, 214, 215, 216, 217, 218, 219, 220, 221, 222, 223, 224, 225, 226, 227, 33, 34, 228, 229, 230] rfl (by decide +kernel)
set_option maxRecDepth 100000 in
theorem ggL_law_L_build_r10 : GoodIn wsL_law wsL_build_r10 := goodIn_r _ [231, 232, 233, 234, 235, 236, 237, 238, 239] rfl (by decide +kernel)
set_option maxRecDepth 100000 in
theorem ggL_law_L_build_x10 : GoodIn wsL_law wsX10 := goodIn_r _ [373, 374, 375, 376, 377, 378, 379, 380, 381, 382, 383] rfl (by decide +kernel)
set_option maxRecDepth 100000 in
theorem ggL_law_L_build_x00 : GoodIn wsL_law wsX00 := goodIn_r _ [355, 356, 357, 358, 359, 360, 361, 362, 363, 364, 365, 366, 367, 368, 369, 370, 371, 372] rfl (by decide +kernel)
theorem ggL_law_L_build : GoodIn wsL_law wsL_build := goodIn_ca (goodIn_ca (goodIn_ca (goodIn_ca (goodIn_ca (goodIn_app ggL_law_L_build_c (goodIn_app ggL_law_L_build_r1 (goodIn_app ggL_law_L_build_r2 (goodIn_app ggL_law_L_build_r3 (goodIn_app ggL_law_L_build_r4 (goodIn_app ggL_law_L_build_r5 (goodIn_app ggL_law_L_build_r6 (goodIn_app ggL_law_L_build_r7 (goodIn_app ggL_law_L_build_r8 (goodIn_app ggL_law_L_build_r9 ggL_law_L_build_r10)))))))))) ggL_law_L_build_x10) ggL_law_L_build_x00) (goodIn_sub (fun _ h => List.mem_append_left _ (List.mem_append_left _ (List.mem_append_right _ h))) (by decide +kernel))) (goodIn_sub (fun _ h => List.mem_append_left _ (List.mem_append_right _ h)) (by decide +kernel))) (goodIn_sub (fun _ h => List.mem_append_right _ h) (by decide +kernel))
set_option maxRecDepth 20000 in
theorem gL_law_L_build : GoodIn wsL_law (va_wsS RL 110 yL_build wsL_build) := goodIn_app (goodIn_of _ (by decide +kernel)) ggL_law_L_build
set_option maxRecDepth 20000 in
theorem ggL_law_L_cell : GoodIn wsL_law wsL_cell := goodIn_r _ [62, 63] rfl (by decide +kernel)
set_option maxRecDepth 20000 in
theorem gL_law_L_cell : GoodIn wsL_law (va_wsS RL 101 yL_cell wsL_cell) := goodIn_app (goodIn_of _ (by decide +kernel)) ggL_law_L_cell
set_option maxRecDepth 20000 in
set_option maxRecDepth 100000 in
theorem ggL_law_L_act_c : GoodIn wsL_law [.code yL_act cL_act 20 (some .boolean)] := goodIn_r _ [70] rfl (by decide +kernel)
set_option maxRecDepth 100000 in
theorem ggL_law_L_act_r1 : GoodIn wsL_law wsL_act_r1 := goodIn_r _ [12, 71, 72, 73, 74, 75, 76, 77, 11, 13, 14, 15, 16, 64, 65, 43, 66, 67, 78, 79, 80, 2, 81, 82] rfl (by decide +kernel)
set_option maxRecDepth 100000 in
theorem ggL_law_L_act_r2 : GoodIn wsL_law wsL_act_r2 := goodIn_r _ [83, 84, 85, 26, 23, 24, 25, 86, 87, 88, 89, 90, 91, 92, 93, 94, 95, 96, 97, 98, 99, 100, 101, 102] rfl (by decide +kernel)
set_option maxRecDepth 100000 in
theorem ggL_law_L_act_r3 : GoodIn wsL_law wsL_act_r3 := goodIn_r _ [103, 104, 105, 106, 27, 107, 108, 109, 110, 28, 111, 112, 113, 114, 29, 115, 116, 117, 118, 31, 32, 30, 119, 120] rfl (by decide +kernel)
set_option maxRecDepth 100000 in
theorem ggL_law_L_act_r4 : GoodIn wsL_law wsL_act_r4 := goodIn_r _ [121, 122, 123, 124, 125, 126, 127, 128, 129, 130, 131, 132, 133, 47, 134, 58, 59, 135, 136, 137, 138, 54, 139, 140] rfl (by decide +kernel)
set_option maxRecDepth 100000 in
theorem ggL_law_L_act_r5 : GoodIn wsL_law wsL_act_r5 := goodIn_r _ [141, 142, 51, 143, 144, 145, 146, 52, 147, 148, 149, 150, 151, 57, 152, 153, 154, 155, 156, 46, 56, 157, 48, 49] rfl (by decide +kernel)
set_option maxRecDepth 100000 in
theorem ggL_law_L_act_r6 : GoodIn wsL_law wsL_act_r6 := goodIn_r _ [50, 21, 22, 53, 55, 158, 159, 160, 161, 162, 163, 164, 165, 166, 167, 6, 168, 169, 170, 171, 172, 173, 174, 175] rfl (by decide +kernel)
set_option maxRecDepth 100000 in
theorem ggL_law_L_act_r7 : GoodIn wsL_law wsL_act_r7 := goodIn_r _ [176, 39, 40, 177, 178, 179, 180, 181, 182, 183, 184, 185, 186, 187, 188, 189, 190, 191, 192, 193, 9, 10, 194, 195] rfl (by decide +kernel)
set_option maxRecDepth 100000 in
theorem ggL_law_L_act_r8 : GoodIn wsL_law wsL_act_r8 := goodIn_r _ [196, 197, 36, 35, 38, 198, 199, 200, 201, 202, 203, 204, 205, 206, 207, 208, 209, 210, 211, 212, 213, 214, 215, 216] rfl (by decide +kernel)
set_option maxRecDepth 100000 in
theorem ggL_law_L_act_r9 : GoodIn wsL_law wsL_act_r9 := goodIn_r _ [217, 218, 219, 220, 221, 222, 223, 224, 225, 226, 227, 33, 34, 228, 229, 230, 231, 232, 233, 234, 235, 236, 237, 238] rfl (by decide +kernel)
set_option maxRecDepth 100000 in
theorem ggL_law_L_act_r10 : GoodIn wsL_law wsL_act_r10 := goodIn_r _ [239] rfl (by decide +kernel)
set_option maxRecDepth 100000 in
theorem ggL_law_L_act_x10 : GoodIn wsL_law wsX10 := goodIn_r _ [373, 374, 375, 376, 377, 378, 379, 380, 381, 382, 383] rfl (by decide +kernel)
set_option maxRecDepth 100000 in
theorem ggL_law_L_act_x00 : GoodIn wsL_law wsX00 := goodIn_r _ [355, 356, 357, 358, 359, 360, 361, 362, 363, 364, 365, 366, 367, 368, 369, 370, 371, 372] rfl (by decide +kernel)
theorem ggL_law_L_act : GoodIn wsL_law wsL_act := goodIn_ca (goodIn_ca (goodIn_ca (goodIn_ca (goodIn_ca (goodIn_app ggL_law_L_act_c (goodIn_app ggL_law_L_act_r1 (goodIn_app ggL_law_L_act_r2 (goodIn_app ggL_law_L_act_r3 (goodIn_app ggL_law_L_act_r4 (goodIn_app ggL_law_L_act_r5 (goodIn_app ggL_law_L_act_r6 (goodIn_app ggL_law_L_act_r7 (goodIn_app ggL_law_L_act_r8 (goodIn_app ggL_law_L_act_r9 ggL_law_L_act_r10)))))))))) ggL_law_L_act_x10) ggL_law_L_act_x00) (goodIn_sub (fun _ h => List.mem_append_left _ (List.mem_append_left _ (List.mem_append_right _ h))) (by decide +kernel))) (goodIn_sub (fun _ h => List.mem_append_left _ (List.mem_append_right _ h)) (by decide +kernel))) (goodIn_sub (fun _ h => List.mem_append_right _ h) (by decide +kernel))
set_option maxRecDepth 20000 in
theorem gL_law_L_act : GoodIn wsL_law (va_wsS RL 105 yL_act wsL_act) := goodIn_app (goodIn_of _ (by decide +kernel)) ggL_law_L_act
set_option maxRecDepth 20000 in
theorem ggL_law_X0_words : GoodIn wsL_law wsX0_words := goodIn_r _ [243, 26, 355, 356, 357, 358, 359, 360, 361, 362, 363, 364, 365, 366, 367, 368, 369, 370, 371, 372] rfl (by decide +kernel)
set_option maxRecDepth 20000 in
theorem gL_law_X0_words : GoodIn wsL_law (wsV RL 114 RX0 yX0_words wsX0_words) := goodIn_app (goodIn_of _ (by decide +kernel)) ggL_law_X0_words
set_option maxRecDepth 20000 in
theorem ggL_law_X0_limit : GoodIn wsL_law wsX0_limit := goodIn_r _ [247, 27, 355, 356, 357, 358, 359, 360, 361, 362, 363, 364, 365, 366, 367, 368, 369, 370, 371, 372] rfl (by decide +kernel)
set_option maxRecDepth 20000 in
theorem gL_law_X0_limit : GoodIn wsL_law (wsV RL 116 RX0 yX0_limit wsX0_limit) := goodIn_app (goodIn_of _ (by decide +kernel)) ggL_law_X0_limit
set_option maxRecDepth 20000 in
theorem ggL_law_X0_leastCount : GoodIn wsL_law wsX0_leastCount := goodIn_r _ [251, 28, 355, 356, 357, 358, 359, 360, 361, 362, 363, 364, 365, 366, 367, 368, 369, 370, 371, 372] rfl (by decide +kernel)
set_option maxRecDepth 20000 in
theorem gL_law_X0_leastCount : GoodIn wsL_law (wsV RL 118 RX0 yX0_leastCount wsX0_leastCount) := goodIn_app (goodIn_of _ (by decide +kernel)) ggL_law_X0_leastCount
set_option maxRecDepth 20000 in
theorem ggL_law_X0_coins : GoodIn wsL_law wsX0_coins := goodIn_r _ [255, 29, 355, 356, 357, 358, 359, 360, 361, 362, 363, 364, 365, 366, 367, 368, 369, 370, 371, 372] rfl (by decide +kernel)
set_option maxRecDepth 20000 in
theorem gL_law_X0_coins : GoodIn wsL_law (wsV RL 121 RX0 yX0_coins wsX0_coins) := goodIn_app (goodIn_of _ (by decide +kernel)) ggL_law_X0_coins
set_option maxRecDepth 20000 in
theorem ggL_law_X0_countOf : GoodIn wsL_law wsX0_countOf := goodIn_ca (goodIn_r _ [259, 23, 90, 91, 92, 2, 93, 94, 95, 26, 185, 186, 187, 188, 27, 355, 356, 357, 358, 359, 360, 361, 362, 363, 364, 365, 366, 367, 368, 369, 370, 371, 372] rfl (by decide +kernel)) (goodIn_sub (fun _ h => List.mem_append_right _ h) (by decide +kernel))
set_option maxRecDepth 20000 in
theorem gL_law_X0_countOf : GoodIn wsL_law (wsV RL 123 RX0 yX0_countOf wsX0_countOf) := goodIn_app (goodIn_of _ (by decide +kernel)) ggL_law_X0_countOf
set_option maxRecDepth 20000 in
theorem ggL_law_X0_mayStandFor : GoodIn wsL_law wsX0_mayStandFor := goodIn_ca (goodIn_r _ [263, 24, 90, 91, 92, 2, 93, 94, 95, 26, 96, 97, 98, 355, 356, 357, 358, 359, 360, 361, 362, 363, 364, 365, 366, 367, 368, 369, 370, 371, 372] rfl (by decide +kernel)) (goodIn_sub (fun _ h => List.mem_append_right _ h) (by decide +kernel))
set_option maxRecDepth 20000 in
theorem gL_law_X0_mayStandFor : GoodIn wsL_law (wsV RL 126 RX0 yX0_mayStandFor wsX0_mayStandFor) := goodIn_app (goodIn_of _ (by decide +kernel)) ggL_law_X0_mayStandFor
set_option maxRecDepth 20000 in
theorem ggL_law_X0_lettersOf : GoodIn wsL_law wsX0_lettersOf := goodIn_ca (goodIn_r _ [267, 23, 90, 91, 92, 2, 93, 94, 95, 26, 355, 356, 357, 358, 359, 360, 361, 362, 363, 364, 365, 366, 367, 368, 369, 370, 371, 372] rfl (by decide +kernel)) (goodIn_sub (fun _ h => List.mem_append_right _ h) (by decide +kernel))
set_option maxRecDepth 20000 in
theorem gL_law_X0_lettersOf : GoodIn wsL_law (wsV RL 129 RX0 yX0_lettersOf wsX0_lettersOf) := goodIn_app (goodIn_of _ (by decide +kernel)) ggL_law_X0_lettersOf
set_option maxRecDepth 20000 in
theorem ggL_law_X0_standInsOf : GoodIn wsL_law wsX0_standInsOf := goodIn_ca (goodIn_r _ [271, 24, 90, 91, 92, 2, 93, 94, 95, 26, 272, 273, 274, 275, 276, 277, 278, 355, 356, 357, 358, 359, 360, 361, 362, 363, 364, 365, 366, 367, 368, 369, 370, 371, 372] rfl (by decide +kernel)) (goodIn_sub (fun _ h => List.mem_append_right _ h) (by decide +kernel))
set_option maxRecDepth 20000 in
theorem gL_law_X0_standInsOf : GoodIn wsL_law (wsV RL 132 RX0 yX0_standInsOf wsX0_standInsOf) := goodIn_app (goodIn_of _ (by decide +kernel)) ggL_law_X0_standInsOf
set_option maxRecDepth 20000 in
theorem ggL_law_X0_length : GoodIn wsL_law wsX0_length := goodIn_r _ [282, 32, 355, 356, 357, 358, 359, 360, 361, 362, 363, 364, 365, 366, 367, 368, 369, 370, 371, 372] rfl (by decide +kernel)
set_option maxRecDepth 20000 in
theorem gL_law_X0_length : GoodIn wsL_law (wsV RL 135 RX0 yX0_length wsX0_length) := goodIn_app (goodIn_of _ (by decide +kernel)) ggL_law_X0_length
set_option maxRecDepth 20000 in
theorem ggL_law_X0_wordAt : GoodIn wsL_law wsX0_wordAt := goodIn_ca (goodIn_r _ [286, 30, 119, 120, 121, 2, 122, 94, 95, 32, 355, 356, 357, 358, 359, 360, 361, 362, 363, 364, 365, 366, 367, 368, 369, 370, 371, 372] rfl (by decide +kernel)) (goodIn_sub (fun _ h => List.mem_append_right _ h) (by decide +kernel))
set_option maxRecDepth 20000 in
theorem gL_law_X0_wordAt : GoodIn wsL_law (wsV RL 138 RX0 yX0_wordAt wsX0_wordAt) := goodIn_app (goodIn_of _ (by decide +kernel)) ggL_law_X0_wordAt
set_option maxRecDepth 20000 in
theorem ggL_law_X0_isJoined : GoodIn wsL_law wsX0_isJoined := goodIn_ca (goodIn_r _ [290, 31, 119, 120, 121, 2, 122, 94, 95, 32, 355, 356, 357, 358, 359, 360, 361, 362, 363, 364, 365, 366, 367, 368, 369, 370, 371, 372] rfl (by decide +kernel)) (goodIn_sub (fun _ h => List.mem_append_right _ h) (by decide +kernel))
set_option maxRecDepth 20000 in
theorem gL_law_X0_isJoined : GoodIn wsL_law (wsV RL 149 RX0 yX0_isJoined wsX0_isJoined) := goodIn_app (goodIn_of _ (by decide +kernel)) ggL_law_X0_isJoined
set_option maxRecDepth 20000 in
theorem ggL_law_X0_isJoinedInCheapest : GoodIn wsL_law wsX0_isJoinedInCheapest := goodIn_ca (goodIn_r _ [294, 40, 119, 120, 121, 2, 122, 94, 95, 32, 194, 195, 196, 197, 36, 35, 38, 198, 199, 200, 201, 23, 202, 203, 204, 205, 206, 30, 26, 207, 208, 209, 210, 24, 96, 97, 98, 185, 186, 187, 188, 27, 211, 212, 213, 214, 25, 181, 182, 183, 184, 215, 216, 217, 218, 219, 167, 6, 168, 220, 221, 222, 223, 39, 355, 356, 357, 358, 359, 360, 361, 362, 363, 364, 365, 366, 367, 368, 369, 370, 371, 372] rfl (by decide +kernel)) (goodIn_sub (fun _ h => List.mem_append_right _ h) (by decide +kernel))
set_option maxRecDepth 20000 in
theorem gL_law_X0_isJoinedInCheapest : GoodIn wsL_law (wsV RL 152 RX0 yX0_isJoinedInCheapest wsX0_isJoinedInCheapest) := goodIn_app (goodIn_of _ (by decide +kernel)) ggL_law_X0_isJoinedInCheapest
set_option maxRecDepth 20000 in
theorem ggL_law_X0_count : GoodIn wsL_law wsX0_count := goodIn_r _ [180, 32, 31, 30, 23, 181, 182, 183, 2, 184, 185, 186, 187, 188, 27, 189, 190, 191, 192, 28, 193, 9, 6, 10, 355, 356, 357, 358, 359, 360, 361, 362, 363, 364, 365, 366, 367, 368, 369, 370, 371, 372] rfl (by decide +kernel)
set_option maxRecDepth 20000 in
theorem gL_law_X0_count : GoodIn wsL_law (wsV RL 155 RX0 yX0_count wsX0_count) := goodIn_app (goodIn_of _ (by decide +kernel)) ggL_law_X0_count
set_option maxRecDepth 20000 in
theorem ggL_law_X0_cheapestCount : GoodIn wsL_law wsX0_cheapestCount := goodIn_r _ [299, 36, 198, 199, 200, 2, 201, 32, 35, 23, 202, 203, 204, 205, 206, 30, 26, 207, 208, 209, 210, 24, 96, 97, 98, 185, 186, 187, 188, 27, 211, 212, 213, 214, 25, 181, 182, 183, 184, 215, 216, 217, 218, 38, 219, 167, 6, 168, 189, 190, 191, 192, 28, 193, 9, 10, 355, 356, 357, 358, 359, 360, 361, 362, 363, 364, 365, 366, 367, 368, 369, 370, 371, 372] rfl (by decide +kernel)
set_option maxRecDepth 20000 in
theorem gL_law_X0_cheapestCount : GoodIn wsL_law (wsV RL 156 RX0 yX0_cheapestCount wsX0_cheapestCount) := goodIn_app (goodIn_of _ (by decide +kernel)) ggL_law_X0_cheapestCount
set_option maxRecDepth 20000 in
theorem ggL_law_X0_wordings : GoodIn wsL_law wsX0_wordings := goodIn_r _ [303, 32, 24, 30, 202, 219, 167, 6, 168, 272, 273, 274, 275, 276, 277, 278, 355, 356, 357, 358, 359, 360, 361, 362, 363, 364, 365, 366, 367, 368, 369, 370, 371, 372] rfl (by decide +kernel)
set_option maxRecDepth 20000 in
theorem gL_law_X0_wordings : GoodIn wsL_law (wsV RL 159 RX0 yX0_wordings wsX0_wordings) := goodIn_app (goodIn_of _ (by decide +kernel)) ggL_law_X0_wordings
set_option maxRecDepth 20000 in
theorem ggL_law_X0_price : GoodIn wsL_law wsX0_price := goodIn_r _ [235, 29, 177, 178, 179, 2, 180, 32, 31, 30, 23, 181, 182, 183, 184, 185, 186, 187, 188, 27, 189, 190, 191, 192, 28, 193, 9, 6, 10, 355, 356, 357, 358, 359, 360, 361, 362, 363, 364, 365, 366, 367, 368, 369, 370, 371, 372] rfl (by decide +kernel)
set_option maxRecDepth 20000 in
theorem gL_law_X0_price : GoodIn wsL_law (wsV RL 165 RX0 yX0_price wsX0_price) := goodIn_app (goodIn_of _ (by decide +kernel)) ggL_law_X0_price
set_option maxRecDepth 20000 in
theorem ggL_law_X0_saves : GoodIn wsL_law wsX0_saves := goodIn_r _ [308, 29, 232, 233, 234, 2, 235, 177, 178, 179, 180, 32, 31, 30, 23, 181, 182, 183, 184, 185, 186, 187, 188, 27, 189, 190, 191, 192, 28, 193, 9, 6, 10, 309, 297, 298, 299, 36, 198, 199, 200, 201, 35, 202, 203, 204, 205, 206, 26, 207, 208, 209, 210, 24, 96, 97, 98, 211, 212, 213, 214, 25, 215, 216, 217, 218, 38, 219, 167, 168, 355, 356, 357, 358, 359, 360, 361, 362, 363, 364, 365, 366, 367, 368, 369, 370, 371, 372] rfl (by decide +kernel)
set_option maxRecDepth 20000 in
theorem gL_law_X0_saves : GoodIn wsL_law (wsV RL 168 RX0 yX0_saves wsX0_saves) := goodIn_app (goodIn_of _ (by decide +kernel)) ggL_law_X0_saves
set_option maxRecDepth 20000 in
theorem ggL_law_X0_priceTo : GoodIn wsL_law wsX0_priceTo := goodIn_ca (goodIn_r _ [231, 94, 95, 232, 233, 234, 2, 235, 29, 177, 178, 179, 180, 32, 31, 30, 23, 181, 182, 183, 184, 185, 186, 187, 188, 27, 189, 190, 191, 192, 28, 193, 9, 6, 10, 355, 356, 357, 358, 359, 360, 361, 362, 363, 364, 365, 366, 367, 368, 369, 370, 371, 372] rfl (by decide +kernel)) (goodIn_sub (fun _ h => List.mem_append_right _ h) (by decide +kernel))
set_option maxRecDepth 20000 in
theorem gL_law_X0_priceTo : GoodIn wsL_law (wsV RL 171 RX0 yX0_priceTo wsX0_priceTo) := goodIn_app (goodIn_of _ (by decide +kernel)) ggL_law_X0_priceTo
set_option maxRecDepth 20000 in
theorem ggL_law_L_below : GoodIn wsL_law wsL_below := goodIn_r _ [66, 67] rfl (by decide +kernel)
set_option maxRecDepth 20000 in
theorem gL_law_L_below : GoodIn wsL_law (va_wsS RL 15 yL_below wsL_below) := goodIn_app (goodIn_of _ (by decide +kernel)) ggL_law_L_below
set_option maxRecDepth 20000 in
theorem ggL_law_X0_earned : GoodIn wsL_law wsX0_earned := goodIn_r _ [314, 34, 355, 356, 357, 358, 359, 360, 361, 362, 363, 364, 365, 366, 367, 368, 369, 370, 371, 372] rfl (by decide +kernel)
set_option maxRecDepth 20000 in
theorem gL_law_X0_earned : GoodIn wsL_law (wsV RL 174 RX0 yX0_earned wsX0_earned) := goodIn_app (goodIn_of _ (by decide +kernel)) ggL_law_X0_earned
set_option maxRecDepth 20000 in
theorem ggL_law_X0_sent : GoodIn wsL_law wsX0_sent := goodIn_r _ [318, 33, 355, 356, 357, 358, 359, 360, 361, 362, 363, 364, 365, 366, 367, 368, 369, 370, 371, 372] rfl (by decide +kernel)
set_option maxRecDepth 20000 in
theorem gL_law_X0_sent : GoodIn wsL_law (wsV RL 176 RX0 yX0_sent wsX0_sent) := goodIn_app (goodIn_of _ (by decide +kernel)) ggL_law_X0_sent
set_option maxRecDepth 20000 in
theorem ggL_law_X0_send : GoodIn wsL_law wsX0_send := goodIn_ca (goodIn_ca (goodIn_r _ [227, 84, 85, 32, 33, 34, 228, 229, 230, 2, 231, 94, 95, 232, 233, 234, 235, 29, 177, 178, 179, 180, 31, 30, 23, 181, 182, 183, 184, 185, 186, 187, 188, 27, 189, 190, 191, 192, 28, 193, 9, 6, 10, 355, 356, 357, 358, 359, 360, 361, 362, 363, 364, 365, 366, 367, 368, 369, 370, 371, 372] rfl (by decide +kernel)) (goodIn_sub (fun _ h => List.mem_append_left _ (List.mem_append_right _ h)) (by decide +kernel))) (goodIn_sub (fun _ h => List.mem_append_right _ h) (by decide +kernel))
set_option maxRecDepth 20000 in
theorem gL_law_X0_send : GoodIn wsL_law (wsV RL 94 RX0 yX0_send wsX0_send) := goodIn_app (goodIn_of _ (by decide +kernel)) ggL_law_X0_send
set_option maxRecDepth 20000 in
theorem ggL_law_X0_meanCost : GoodIn wsL_law wsX0_meanCost := goodIn_r _ [322, 33, 34, 355, 356, 357, 358, 359, 360, 361, 362, 363, 364, 365, 366, 367, 368, 369, 370, 371, 372] rfl (by decide +kernel)
set_option maxRecDepth 20000 in
theorem gL_law_X0_meanCost : GoodIn wsL_law (wsV RL 178 RX0 yX0_meanCost wsX0_meanCost) := goodIn_app (goodIn_of _ (by decide +kernel)) ggL_law_X0_meanCost
set_option maxRecDepth 20000 in
set_option maxRecDepth 100000 in
theorem ggL_law_X1_isSame_c : GoodIn wsL_law [.code yX1_isSame cX1_isSame 6 (some .boolean)] := goodIn_r _ [326] rfl (by decide +kernel)
set_option maxRecDepth 100000 in
theorem ggL_law_X1_isSame_r1 : GoodIn wsL_law wsX1_isSame_r1 := goodIn_r _ [58, 151, 51, 52, 53, 327, 328, 57, 54, 59, 329, 330, 241, 242, 2, 243, 26, 331, 245, 246, 247, 27, 332, 249] rfl (by decide +kernel)
set_option maxRecDepth 100000 in
theorem ggL_law_X1_isSame_r2 : GoodIn wsL_law wsX1_isSame_r2 := goodIn_r _ [250, 251, 28, 333, 253, 254, 255, 29, 334, 280, 281, 282, 32, 335, 178, 179, 180, 31, 30, 23, 181, 182, 183, 184] rfl (by decide +kernel)
set_option maxRecDepth 100000 in
theorem ggL_law_X1_isSame_r3 : GoodIn wsL_law wsX1_isSame_r3 := goodIn_r _ [185, 186, 187, 188, 189, 190, 191, 192, 193, 9, 6, 10, 336, 132, 133, 47, 134, 135, 136, 137, 138, 139, 140, 141] rfl (by decide +kernel)
set_option maxRecDepth 100000 in
theorem ggL_law_X1_isSame_r4 : GoodIn wsL_law wsX1_isSame_r4 := goodIn_r _ [142, 143, 144, 145, 146, 337, 233, 234, 235, 177, 338, 297, 298, 299, 36, 198, 199, 200, 201, 35, 202, 203, 204, 205] rfl (by decide +kernel)
set_option maxRecDepth 100000 in
theorem ggL_law_X1_isSame_r5 : GoodIn wsL_law wsX1_isSame_r5 := goodIn_r _ [206, 207, 208, 209, 210, 24, 96, 97, 98, 211, 212, 213, 214, 25, 215, 216, 217, 218, 38, 219, 167, 168, 158, 159] rfl (by decide +kernel)
set_option maxRecDepth 100000 in
theorem ggL_law_X1_isSame_r6 : GoodIn wsL_law wsX1_isSame_r6 := goodIn_r _ [160, 161, 162, 163, 164, 165, 11, 166, 169, 170, 171, 172, 56, 339, 316, 317, 318, 33, 340, 312, 313, 314, 34, 341] rfl (by decide +kernel)
set_option maxRecDepth 100000 in
theorem ggL_law_X1_isSame_r7 : GoodIn wsL_law wsX1_isSame_r7 := goodIn_r _ [306, 307, 308, 232, 309, 342, 229, 230, 231, 94, 95, 343, 261, 262, 263, 90, 91, 92, 93, 344, 345, 346, 347, 348] rfl (by decide +kernel)
set_option maxRecDepth 100000 in
theorem ggL_law_X1_isSame_r8 : GoodIn wsL_law wsX1_isSame_r8 := goodIn_r _ [265, 266, 267, 349, 257, 258, 259, 350, 269, 270, 271, 272, 273, 274, 275, 276, 277, 278, 351, 284, 285, 286, 119, 120] rfl (by decide +kernel)
set_option maxRecDepth 100000 in
theorem ggL_law_X1_isSame_r9 : GoodIn wsL_law wsX1_isSame_r9 := goodIn_r _ [121, 122, 352, 288, 289, 290, 353, 301, 302, 303, 354, 320, 321, 322] rfl (by decide +kernel)
set_option maxRecDepth 100000 in
theorem ggL_law_X1_isSame_x10 : GoodIn wsL_law wsX10 := goodIn_r _ [373, 374, 375, 376, 377, 378, 379, 380, 381, 382, 383] rfl (by decide +kernel)
set_option maxRecDepth 100000 in
theorem ggL_law_X1_isSame_x00 : GoodIn wsL_law wsX00 := goodIn_r _ [355, 356, 357, 358, 359, 360, 361, 362, 363, 364, 365, 366, 367, 368, 369, 370, 371, 372] rfl (by decide +kernel)
theorem ggL_law_X1_isSame : GoodIn wsL_law wsX1_isSame := goodIn_ca (goodIn_ca (goodIn_ca (goodIn_app ggL_law_X1_isSame_c (goodIn_app ggL_law_X1_isSame_r1 (goodIn_app ggL_law_X1_isSame_r2 (goodIn_app ggL_law_X1_isSame_r3 (goodIn_app ggL_law_X1_isSame_r4 (goodIn_app ggL_law_X1_isSame_r5 (goodIn_app ggL_law_X1_isSame_r6 (goodIn_app ggL_law_X1_isSame_r7 (goodIn_app ggL_law_X1_isSame_r8 ggL_law_X1_isSame_r9))))))))) ggL_law_X1_isSame_x10) ggL_law_X1_isSame_x00) (goodIn_sub (fun _ h => List.mem_append_right _ h) (by decide +kernel))
set_option maxRecDepth 20000 in
theorem gL_law_X1_isSame : GoodIn wsL_law (wsV RL 182 RX1 yX1_isSame wsX1_isSame) := goodIn_app (goodIn_of _ (by decide +kernel)) ggL_law_X1_isSame
theorem dL_law_0 : decode cL_law 0 = .ok (.new 29, 3) := by decide +kernel
theorem dL_law_3 : decode cL_law 3 = .ok (.dup, 1) := by decide +kernel
theorem dL_law_4 : decode cL_law 4 = .ok (.invokespecial 109, 3) := by decide +kernel
theorem dL_law_7 : decode cL_law 7 = .ok (.astore_n 1, 1) := by decide +kernel
theorem dL_law_8 : decode cL_law 8 = .ok (.aload_n 1, 1) := by decide +kernel
theorem dL_law_9 : decode cL_law 9 = .ok (.aload_n 0, 1) := by decide +kernel
theorem dL_law_10 : decode cL_law 10 = .ok (.invokestatic 110, 3) := by decide +kernel
theorem dL_law_13 : decode cL_law 13 = .ok (.astore_n 2, 1) := by decide +kernel
theorem dL_law_14 : decode cL_law 14 = .ok (.aload_n 2, 1) := by decide +kernel
theorem dL_law_15 : decode cL_law 15 = .ok (.ifnonnull 5, 3) := by decide +kernel
theorem dL_law_18 : decode cL_law 18 = .ok (.iconst 0, 1) := by decide +kernel
theorem dL_law_19 : decode cL_law 19 = .ok (.ireturn, 1) := by decide +kernel
theorem dL_law_20 : decode cL_law 20 = .ok (.iconst 0, 1) := by decide +kernel
theorem dL_law_21 : decode cL_law 21 = .ok (.istore_n 3, 1) := by decide +kernel
theorem dL_law_22 : decode cL_law 22 = .ok (.iload_n 3, 1) := by decide +kernel
theorem dL_law_23 : decode cL_law 23 = .ok (.bipush 24, 2) := by decide +kernel
theorem dL_law_25 : decode cL_law 25 = .ok (.if_icmp .ge 707, 3) := by decide +kernel
theorem dL_law_28 : decode cL_law 28 = .ok (.aload_n 0, 1) := by decide +kernel
theorem dL_law_29 : decode cL_law 29 = .ok (.iload_n 3, 1) := by decide +kernel
theorem dL_law_30 : decode cL_law 30 = .ok (.bipush 16, 2) := by decide +kernel
theorem dL_law_32 : decode cL_law 32 = .ok (.irem, 1) := by decide +kernel
theorem dL_law_33 : decode cL_law 33 = .ok (.invokestatic 101, 3) := by decide +kernel
theorem dL_law_36 : decode cL_law 36 = .ok (.iload_n 3, 1) := by decide +kernel
theorem dL_law_37 : decode cL_law 37 = .ok (.bipush 16, 2) := by decide +kernel
theorem dL_law_39 : decode cL_law 39 = .ok (.idiv, 1) := by decide +kernel
theorem dL_law_40 : decode cL_law 40 = .ok (.iconst 3, 1) := by decide +kernel
theorem dL_law_41 : decode cL_law 41 = .ok (.imul, 1) := by decide +kernel
theorem dL_law_42 : decode cL_law 42 = .ok (.ishr, 1) := by decide +kernel
theorem dL_law_43 : decode cL_law 43 = .ok (.sipush 557, 3) := by decide +kernel
theorem dL_law_46 : decode cL_law 46 = .ok (.iload_n 3, 1) := by decide +kernel
theorem dL_law_47 : decode cL_law 47 = .ok (.imul, 1) := by decide +kernel
theorem dL_law_48 : decode cL_law 48 = .ok (.iadd, 1) := by decide +kernel
theorem dL_law_49 : decode cL_law 49 = .ok (.istore 4, 2) := by decide +kernel
theorem dL_law_51 : decode cL_law 51 = .ok (.iconst 0, 1) := by decide +kernel
theorem dL_law_52 : decode cL_law 52 = .ok (.istore 5, 2) := by decide +kernel
theorem dL_law_54 : decode cL_law 54 = .ok (.iload 5, 2) := by decide +kernel
theorem dL_law_56 : decode cL_law 56 = .ok (.iconst 2, 1) := by decide +kernel
theorem dL_law_57 : decode cL_law 57 = .ok (.if_icmp .ge 33, 3) := by decide +kernel
theorem dL_law_60 : decode cL_law 60 = .ok (.aload_n 1, 1) := by decide +kernel
theorem dL_law_61 : decode cL_law 61 = .ok (.aload_n 2, 1) := by decide +kernel
theorem dL_law_62 : decode cL_law 62 = .ok (.iload 4, 2) := by decide +kernel
theorem dL_law_64 : decode cL_law 64 = .ok (.iconst 2, 1) := by decide +kernel
theorem dL_law_65 : decode cL_law 65 = .ok (.iload 5, 2) := by decide +kernel
theorem dL_law_67 : decode cL_law 67 = .ok (.imul, 1) := by decide +kernel
theorem dL_law_68 : decode cL_law 68 = .ok (.ishr, 1) := by decide +kernel
theorem dL_law_69 : decode cL_law 69 = .ok (.sipush 431, 3) := by decide +kernel
theorem dL_law_72 : decode cL_law 72 = .ok (.iload 5, 2) := by decide +kernel
theorem dL_law_74 : decode cL_law 74 = .ok (.imul, 1) := by decide +kernel
theorem dL_law_75 : decode cL_law 75 = .ok (.iadd, 1) := by decide +kernel
theorem dL_law_76 : decode cL_law 76 = .ok (.invokestatic 105, 3) := by decide +kernel
theorem dL_law_79 : decode cL_law 79 = .ok (.ifCond .ne 5, 3) := by decide +kernel
theorem dL_law_82 : decode cL_law 82 = .ok (.iconst 0, 1) := by decide +kernel
theorem dL_law_83 : decode cL_law 83 = .ok (.ireturn, 1) := by decide +kernel
theorem dL_law_84 : decode cL_law 84 = .ok (.iinc 5 1, 3) := by decide +kernel
theorem dL_law_87 : decode cL_law 87 = .ok (.goto (-33), 3) := by decide +kernel
theorem dL_law_90 : decode cL_law 90 = .ok (.aload_n 1, 1) := by decide +kernel
theorem dL_law_91 : decode cL_law 91 = .ok (.invokevirtual 114, 3) := by decide +kernel
theorem dL_law_94 : decode cL_law 94 = .ok (.istore 5, 2) := by decide +kernel
theorem dL_law_96 : decode cL_law 96 = .ok (.aload_n 1, 1) := by decide +kernel
theorem dL_law_97 : decode cL_law 97 = .ok (.invokevirtual 116, 3) := by decide +kernel
theorem dL_law_100 : decode cL_law 100 = .ok (.istore 6, 2) := by decide +kernel
theorem dL_law_102 : decode cL_law 102 = .ok (.iload 6, 2) := by decide +kernel
theorem dL_law_104 : decode cL_law 104 = .ok (.iconst 3, 1) := by decide +kernel
theorem dL_law_105 : decode cL_law 105 = .ok (.if_icmp .lt 43, 3) := by decide +kernel
theorem dL_law_108 : decode cL_law 108 = .ok (.iload 6, 2) := by decide +kernel
theorem dL_law_110 : decode cL_law 110 = .ok (.bipush 15, 2) := by decide +kernel
theorem dL_law_112 : decode cL_law 112 = .ok (.if_icmp .gt 36, 3) := by decide +kernel
theorem dL_law_115 : decode cL_law 115 = .ok (.aload_n 1, 1) := by decide +kernel
theorem dL_law_116 : decode cL_law 116 = .ok (.invokevirtual 118, 3) := by decide +kernel
theorem dL_law_119 : decode cL_law 119 = .ok (.ifCond .lt 29, 3) := by decide +kernel
theorem dL_law_122 : decode cL_law 122 = .ok (.aload_n 1, 1) := by decide +kernel
theorem dL_law_123 : decode cL_law 123 = .ok (.invokevirtual 118, 3) := by decide +kernel
theorem dL_law_126 : decode cL_law 126 = .ok (.bipush 20, 2) := by decide +kernel
theorem dL_law_128 : decode cL_law 128 = .ok (.if_icmp .gt 20, 3) := by decide +kernel
theorem dL_law_131 : decode cL_law 131 = .ok (.aload_n 1, 1) := by decide +kernel
theorem dL_law_132 : decode cL_law 132 = .ok (.invokevirtual 121, 3) := by decide +kernel
theorem dL_law_135 : decode cL_law 135 = .ok (.iconst 1, 1) := by decide +kernel
theorem dL_law_136 : decode cL_law 136 = .ok (.if_icmp .lt 12, 3) := by decide +kernel
theorem dL_law_139 : decode cL_law 139 = .ok (.aload_n 1, 1) := by decide +kernel
theorem dL_law_140 : decode cL_law 140 = .ok (.invokevirtual 121, 3) := by decide +kernel
theorem dL_law_143 : decode cL_law 143 = .ok (.bipush 50, 2) := by decide +kernel
theorem dL_law_145 : decode cL_law 145 = .ok (.if_icmp .le 5, 3) := by decide +kernel
theorem dL_law_148 : decode cL_law 148 = .ok (.iconst 0, 1) := by decide +kernel
theorem dL_law_149 : decode cL_law 149 = .ok (.ireturn, 1) := by decide +kernel
theorem dL_law_150 : decode cL_law 150 = .ok (.iconst 0, 1) := by decide +kernel
theorem dL_law_151 : decode cL_law 151 = .ok (.istore 7, 2) := by decide +kernel
theorem dL_law_153 : decode cL_law 153 = .ok (.iload 7, 2) := by decide +kernel
theorem dL_law_155 : decode cL_law 155 = .ok (.iload 5, 2) := by decide +kernel
theorem dL_law_157 : decode cL_law 157 = .ok (.if_icmp .ge 111, 3) := by decide +kernel
theorem dL_law_160 : decode cL_law 160 = .ok (.aload_n 1, 1) := by decide +kernel
theorem dL_law_161 : decode cL_law 161 = .ok (.iload 7, 2) := by decide +kernel
theorem dL_law_163 : decode cL_law 163 = .ok (.invokevirtual 123, 3) := by decide +kernel
theorem dL_law_166 : decode cL_law 166 = .ok (.istore 8, 2) := by decide +kernel
theorem dL_law_168 : decode cL_law 168 = .ok (.iconst 0, 1) := by decide +kernel
theorem dL_law_169 : decode cL_law 169 = .ok (.istore 9, 2) := by decide +kernel
theorem dL_law_171 : decode cL_law 171 = .ok (.iconst 0, 1) := by decide +kernel
theorem dL_law_172 : decode cL_law 172 = .ok (.istore 10, 2) := by decide +kernel
theorem dL_law_174 : decode cL_law 174 = .ok (.iload 10, 2) := by decide +kernel
theorem dL_law_176 : decode cL_law 176 = .ok (.iload 5, 2) := by decide +kernel
theorem dL_law_178 : decode cL_law 178 = .ok (.if_icmp .ge 30, 3) := by decide +kernel
theorem dL_law_181 : decode cL_law 181 = .ok (.iload 9, 2) := by decide +kernel
theorem dL_law_183 : decode cL_law 183 = .ok (.aload_n 1, 1) := by decide +kernel
theorem dL_law_184 : decode cL_law 184 = .ok (.iload 7, 2) := by decide +kernel
theorem dL_law_186 : decode cL_law 186 = .ok (.iload 10, 2) := by decide +kernel
theorem dL_law_188 : decode cL_law 188 = .ok (.invokevirtual 126, 3) := by decide +kernel
theorem dL_law_191 : decode cL_law 191 = .ok (.ifCond .eq 7, 3) := by decide +kernel
theorem dL_law_194 : decode cL_law 194 = .ok (.iconst 1, 1) := by decide +kernel
theorem dL_law_195 : decode cL_law 195 = .ok (.goto 4, 3) := by decide +kernel
theorem dL_law_198 : decode cL_law 198 = .ok (.iconst 0, 1) := by decide +kernel
theorem dL_law_199 : decode cL_law 199 = .ok (.iadd, 1) := by decide +kernel
theorem dL_law_200 : decode cL_law 200 = .ok (.istore 9, 2) := by decide +kernel
theorem dL_law_202 : decode cL_law 202 = .ok (.iinc 10 1, 3) := by decide +kernel
theorem dL_law_205 : decode cL_law 205 = .ok (.goto (-31), 3) := by decide +kernel
theorem dL_law_208 : decode cL_law 208 = .ok (.aload_n 1, 1) := by decide +kernel
theorem dL_law_209 : decode cL_law 209 = .ok (.iload 7, 2) := by decide +kernel
theorem dL_law_211 : decode cL_law 211 = .ok (.invokevirtual 129, 3) := by decide +kernel
theorem dL_law_214 : decode cL_law 214 = .ok (.iload 8, 2) := by decide +kernel
theorem dL_law_216 : decode cL_law 216 = .ok (.iload 6, 2) := by decide +kernel
theorem dL_law_218 : decode cL_law 218 = .ok (.imul, 1) := by decide +kernel
theorem dL_law_219 : decode cL_law 219 = .ok (.if_icmp .gt 41, 3) := by decide +kernel
theorem dL_law_222 : decode cL_law 222 = .ok (.aload_n 1, 1) := by decide +kernel
theorem dL_law_223 : decode cL_law 223 = .ok (.iload 7, 2) := by decide +kernel
theorem dL_law_225 : decode cL_law 225 = .ok (.invokevirtual 129, 3) := by decide +kernel
theorem dL_law_228 : decode cL_law 228 = .ok (.iload 8, 2) := by decide +kernel
theorem dL_law_230 : decode cL_law 230 = .ok (.iconst 1, 1) := by decide +kernel
theorem dL_law_231 : decode cL_law 231 = .ok (.isub, 1) := by decide +kernel
theorem dL_law_232 : decode cL_law 232 = .ok (.iload 6, 2) := by decide +kernel
theorem dL_law_234 : decode cL_law 234 = .ok (.imul, 1) := by decide +kernel
theorem dL_law_235 : decode cL_law 235 = .ok (.if_icmp .le 25, 3) := by decide +kernel
theorem dL_law_238 : decode cL_law 238 = .ok (.iload 9, 2) := by decide +kernel
theorem dL_law_240 : decode cL_law 240 = .ok (.aload_n 1, 1) := by decide +kernel
theorem dL_law_241 : decode cL_law 241 = .ok (.iload 7, 2) := by decide +kernel
theorem dL_law_243 : decode cL_law 243 = .ok (.invokevirtual 132, 3) := by decide +kernel
theorem dL_law_246 : decode cL_law 246 = .ok (.if_icmp .ne 14, 3) := by decide +kernel
theorem dL_law_249 : decode cL_law 249 = .ok (.aload_n 1, 1) := by decide +kernel
theorem dL_law_250 : decode cL_law 250 = .ok (.iload 7, 2) := by decide +kernel
theorem dL_law_252 : decode cL_law 252 = .ok (.iload 7, 2) := by decide +kernel
theorem dL_law_254 : decode cL_law 254 = .ok (.invokevirtual 126, 3) := by decide +kernel
theorem dL_law_257 : decode cL_law 257 = .ok (.ifCond .ne 5, 3) := by decide +kernel
theorem dL_law_260 : decode cL_law 260 = .ok (.iconst 0, 1) := by decide +kernel
theorem dL_law_261 : decode cL_law 261 = .ok (.ireturn, 1) := by decide +kernel
theorem dL_law_262 : decode cL_law 262 = .ok (.iinc 7 1, 3) := by decide +kernel
theorem dL_law_265 : decode cL_law 265 = .ok (.goto (-112), 3) := by decide +kernel
theorem dL_law_268 : decode cL_law 268 = .ok (.aload_n 1, 1) := by decide +kernel
theorem dL_law_269 : decode cL_law 269 = .ok (.invokevirtual 135, 3) := by decide +kernel
theorem dL_law_272 : decode cL_law 272 = .ok (.istore 7, 2) := by decide +kernel
theorem dL_law_274 : decode cL_law 274 = .ok (.iconst 0, 1) := by decide +kernel
theorem dL_law_275 : decode cL_law 275 = .ok (.istore 8, 2) := by decide +kernel
theorem dL_law_277 : decode cL_law 277 = .ok (.lconst 1, 1) := by decide +kernel
theorem dL_law_278 : decode cL_law 278 = .ok (.lstore 9, 2) := by decide +kernel
theorem dL_law_280 : decode cL_law 280 = .ok (.iconst 0, 1) := by decide +kernel
theorem dL_law_281 : decode cL_law 281 = .ok (.istore 11, 2) := by decide +kernel
theorem dL_law_283 : decode cL_law 283 = .ok (.iload 11, 2) := by decide +kernel
theorem dL_law_285 : decode cL_law 285 = .ok (.iload 7, 2) := by decide +kernel
theorem dL_law_287 : decode cL_law 287 = .ok (.if_icmp .ge 106, 3) := by decide +kernel
theorem dL_law_290 : decode cL_law 290 = .ok (.iload 8, 2) := by decide +kernel
theorem dL_law_292 : decode cL_law 292 = .ok (.aload_n 1, 1) := by decide +kernel
theorem dL_law_293 : decode cL_law 293 = .ok (.aload_n 1, 1) := by decide +kernel
theorem dL_law_294 : decode cL_law 294 = .ok (.iload 11, 2) := by decide +kernel
theorem dL_law_296 : decode cL_law 296 = .ok (.invokevirtual 138, 3) := by decide +kernel
theorem dL_law_299 : decode cL_law 299 = .ok (.invokevirtual 123, 3) := by decide +kernel
theorem dL_law_302 : decode cL_law 302 = .ok (.iadd, 1) := by decide +kernel
theorem dL_law_303 : decode cL_law 303 = .ok (.istore 8, 2) := by decide +kernel
theorem dL_law_305 : decode cL_law 305 = .ok (.ldc2_w 141, 3) := by decide +kernel
theorem dL_law_308 : decode cL_law 308 = .ok (.lload 9, 2) := by decide +kernel
theorem dL_law_310 : decode cL_law 310 = .ok (.aload_n 1, 1) := by decide +kernel
theorem dL_law_311 : decode cL_law 311 = .ok (.aload_n 1, 1) := by decide +kernel
theorem dL_law_312 : decode cL_law 312 = .ok (.iload 11, 2) := by decide +kernel
theorem dL_law_314 : decode cL_law 314 = .ok (.invokevirtual 138, 3) := by decide +kernel
theorem dL_law_317 : decode cL_law 317 = .ok (.invokevirtual 132, 3) := by decide +kernel
theorem dL_law_320 : decode cL_law 320 = .ok (.i2l, 1) := by decide +kernel
theorem dL_law_321 : decode cL_law 321 = .ok (.lmul, 1) := by decide +kernel
theorem dL_law_322 : decode cL_law 322 = .ok (.invokestatic 143, 3) := by decide +kernel
theorem dL_law_325 : decode cL_law 325 = .ok (.lstore 9, 2) := by decide +kernel
theorem dL_law_327 : decode cL_law 327 = .ok (.aload_n 1, 1) := by decide +kernel
theorem dL_law_328 : decode cL_law 328 = .ok (.iload 11, 2) := by decide +kernel
theorem dL_law_330 : decode cL_law 330 = .ok (.invokevirtual 149, 3) := by decide +kernel
theorem dL_law_333 : decode cL_law 333 = .ok (.ifCond .eq 23, 3) := by decide +kernel
theorem dL_law_336 : decode cL_law 336 = .ok (.iload 11, 2) := by decide +kernel
theorem dL_law_338 : decode cL_law 338 = .ok (.iload 7, 2) := by decide +kernel
theorem dL_law_340 : decode cL_law 340 = .ok (.iconst 1, 1) := by decide +kernel
theorem dL_law_341 : decode cL_law 341 = .ok (.isub, 1) := by decide +kernel
theorem dL_law_342 : decode cL_law 342 = .ok (.if_icmp .eq 43, 3) := by decide +kernel
theorem dL_law_345 : decode cL_law 345 = .ok (.aload_n 1, 1) := by decide +kernel
theorem dL_law_346 : decode cL_law 346 = .ok (.iload 11, 2) := by decide +kernel
theorem dL_law_348 : decode cL_law 348 = .ok (.iconst 1, 1) := by decide +kernel
theorem dL_law_349 : decode cL_law 349 = .ok (.iadd, 1) := by decide +kernel
theorem dL_law_350 : decode cL_law 350 = .ok (.invokevirtual 149, 3) := by decide +kernel
theorem dL_law_353 : decode cL_law 353 = .ok (.ifCond .ne 32, 3) := by decide +kernel
theorem dL_law_356 : decode cL_law 356 = .ok (.aload_n 1, 1) := by decide +kernel
theorem dL_law_357 : decode cL_law 357 = .ok (.iload 11, 2) := by decide +kernel
theorem dL_law_359 : decode cL_law 359 = .ok (.invokevirtual 152, 3) := by decide +kernel
theorem dL_law_362 : decode cL_law 362 = .ok (.ifCond .eq 25, 3) := by decide +kernel
theorem dL_law_365 : decode cL_law 365 = .ok (.iload 11, 2) := by decide +kernel
theorem dL_law_367 : decode cL_law 367 = .ok (.iload 7, 2) := by decide +kernel
theorem dL_law_369 : decode cL_law 369 = .ok (.iconst 1, 1) := by decide +kernel
theorem dL_law_370 : decode cL_law 370 = .ok (.isub, 1) := by decide +kernel
theorem dL_law_371 : decode cL_law 371 = .ok (.if_icmp .eq 14, 3) := by decide +kernel
theorem dL_law_374 : decode cL_law 374 = .ok (.aload_n 1, 1) := by decide +kernel
theorem dL_law_375 : decode cL_law 375 = .ok (.iload 11, 2) := by decide +kernel
theorem dL_law_377 : decode cL_law 377 = .ok (.iconst 1, 1) := by decide +kernel
theorem dL_law_378 : decode cL_law 378 = .ok (.iadd, 1) := by decide +kernel
theorem dL_law_379 : decode cL_law 379 = .ok (.invokevirtual 152, 3) := by decide +kernel
theorem dL_law_382 : decode cL_law 382 = .ok (.ifCond .eq 5, 3) := by decide +kernel
theorem dL_law_385 : decode cL_law 385 = .ok (.iconst 0, 1) := by decide +kernel
theorem dL_law_386 : decode cL_law 386 = .ok (.ireturn, 1) := by decide +kernel
theorem dL_law_387 : decode cL_law 387 = .ok (.iinc 11 1, 3) := by decide +kernel
theorem dL_law_390 : decode cL_law 390 = .ok (.goto (-107), 3) := by decide +kernel
theorem dL_law_393 : decode cL_law 393 = .ok (.aload_n 1, 1) := by decide +kernel
theorem dL_law_394 : decode cL_law 394 = .ok (.invokevirtual 155, 3) := by decide +kernel
theorem dL_law_397 : decode cL_law 397 = .ok (.istore 11, 2) := by decide +kernel
theorem dL_law_399 : decode cL_law 399 = .ok (.aload_n 1, 1) := by decide +kernel
theorem dL_law_400 : decode cL_law 400 = .ok (.invokevirtual 156, 3) := by decide +kernel
theorem dL_law_403 : decode cL_law 403 = .ok (.istore 12, 2) := by decide +kernel
theorem dL_law_405 : decode cL_law 405 = .ok (.aload_n 1, 1) := by decide +kernel
theorem dL_law_406 : decode cL_law 406 = .ok (.invokevirtual 159, 3) := by decide +kernel
theorem dL_law_409 : decode cL_law 409 = .ok (.i2l, 1) := by decide +kernel
theorem dL_law_410 : decode cL_law 410 = .ok (.lload 9, 2) := by decide +kernel
theorem dL_law_412 : decode cL_law 412 = .ok (.lcmp, 1) := by decide +kernel
theorem dL_law_413 : decode cL_law 413 = .ok (.ifCond .ne 98, 3) := by decide +kernel
theorem dL_law_416 : decode cL_law 416 = .ok (.iload 11, 2) := by decide +kernel
theorem dL_law_418 : decode cL_law 418 = .ok (.iload 8, 2) := by decide +kernel
theorem dL_law_420 : decode cL_law 420 = .ok (.aload_n 1, 1) := by decide +kernel
theorem dL_law_421 : decode cL_law 421 = .ok (.invokevirtual 118, 3) := by decide +kernel
theorem dL_law_424 : decode cL_law 424 = .ok (.invokestatic 162, 3) := by decide +kernel
theorem dL_law_427 : decode cL_law 427 = .ok (.if_icmp .gt 84, 3) := by decide +kernel
theorem dL_law_430 : decode cL_law 430 = .ok (.iload 12, 2) := by decide +kernel
theorem dL_law_432 : decode cL_law 432 = .ok (.iload 8, 2) := by decide +kernel
theorem dL_law_434 : decode cL_law 434 = .ok (.aload_n 1, 1) := by decide +kernel
theorem dL_law_435 : decode cL_law 435 = .ok (.invokevirtual 118, 3) := by decide +kernel
theorem dL_law_438 : decode cL_law 438 = .ok (.invokestatic 162, 3) := by decide +kernel
theorem dL_law_441 : decode cL_law 441 = .ok (.if_icmp .gt 70, 3) := by decide +kernel
theorem dL_law_444 : decode cL_law 444 = .ok (.iload 7, 2) := by decide +kernel
theorem dL_law_446 : decode cL_law 446 = .ok (.ifCond .le 21, 3) := by decide +kernel
theorem dL_law_449 : decode cL_law 449 = .ok (.iload 11, 2) := by decide +kernel
theorem dL_law_451 : decode cL_law 451 = .ok (.aload_n 1, 1) := by decide +kernel
theorem dL_law_452 : decode cL_law 452 = .ok (.invokevirtual 118, 3) := by decide +kernel
theorem dL_law_455 : decode cL_law 455 = .ok (.if_icmp .lt 56, 3) := by decide +kernel
theorem dL_law_458 : decode cL_law 458 = .ok (.iload 12, 2) := by decide +kernel
theorem dL_law_460 : decode cL_law 460 = .ok (.aload_n 1, 1) := by decide +kernel
theorem dL_law_461 : decode cL_law 461 = .ok (.invokevirtual 118, 3) := by decide +kernel
theorem dL_law_464 : decode cL_law 464 = .ok (.if_icmp .lt 47, 3) := by decide +kernel
theorem dL_law_467 : decode cL_law 467 = .ok (.iload 7, 2) := by decide +kernel
theorem dL_law_469 : decode cL_law 469 = .ok (.ifCond .ne 11, 3) := by decide +kernel
theorem dL_law_472 : decode cL_law 472 = .ok (.iload 11, 2) := by decide +kernel
theorem dL_law_474 : decode cL_law 474 = .ok (.iload 12, 2) := by decide +kernel
theorem dL_law_476 : decode cL_law 476 = .ok (.iadd, 1) := by decide +kernel
theorem dL_law_477 : decode cL_law 477 = .ok (.ifCond .ne 34, 3) := by decide +kernel
theorem dL_law_480 : decode cL_law 480 = .ok (.aload_n 1, 1) := by decide +kernel
theorem dL_law_481 : decode cL_law 481 = .ok (.invokevirtual 165, 3) := by decide +kernel
theorem dL_law_484 : decode cL_law 484 = .ok (.iload 11, 2) := by decide +kernel
theorem dL_law_486 : decode cL_law 486 = .ok (.aload_n 1, 1) := by decide +kernel
theorem dL_law_487 : decode cL_law 487 = .ok (.invokevirtual 121, 3) := by decide +kernel
theorem dL_law_490 : decode cL_law 490 = .ok (.imul, 1) := by decide +kernel
theorem dL_law_491 : decode cL_law 491 = .ok (.if_icmp .ne 20, 3) := by decide +kernel
theorem dL_law_494 : decode cL_law 494 = .ok (.aload_n 1, 1) := by decide +kernel
theorem dL_law_495 : decode cL_law 495 = .ok (.invokevirtual 168, 3) := by decide +kernel
theorem dL_law_498 : decode cL_law 498 = .ok (.iload 11, 2) := by decide +kernel
theorem dL_law_500 : decode cL_law 500 = .ok (.iload 12, 2) := by decide +kernel
theorem dL_law_502 : decode cL_law 502 = .ok (.isub, 1) := by decide +kernel
theorem dL_law_503 : decode cL_law 503 = .ok (.aload_n 1, 1) := by decide +kernel
theorem dL_law_504 : decode cL_law 504 = .ok (.invokevirtual 121, 3) := by decide +kernel
theorem dL_law_507 : decode cL_law 507 = .ok (.imul, 1) := by decide +kernel
theorem dL_law_508 : decode cL_law 508 = .ok (.if_icmp .eq 5, 3) := by decide +kernel
theorem dL_law_511 : decode cL_law 511 = .ok (.iconst 0, 1) := by decide +kernel
theorem dL_law_512 : decode cL_law 512 = .ok (.ireturn, 1) := by decide +kernel
theorem dL_law_513 : decode cL_law 513 = .ok (.iconst 0, 1) := by decide +kernel
theorem dL_law_514 : decode cL_law 514 = .ok (.istore 13, 2) := by decide +kernel
theorem dL_law_516 : decode cL_law 516 = .ok (.iload 13, 2) := by decide +kernel
theorem dL_law_518 : decode cL_law 518 = .ok (.iconst 4, 1) := by decide +kernel
theorem dL_law_519 : decode cL_law 519 = .ok (.if_icmp .ge 53, 3) := by decide +kernel
theorem dL_law_522 : decode cL_law 522 = .ok (.aload_n 1, 1) := by decide +kernel
theorem dL_law_523 : decode cL_law 523 = .ok (.iload 13, 2) := by decide +kernel
theorem dL_law_525 : decode cL_law 525 = .ok (.invokevirtual 171, 3) := by decide +kernel
theorem dL_law_528 : decode cL_law 528 = .ok (.iconst 2, 1) := by decide +kernel
theorem dL_law_529 : decode cL_law 529 = .ok (.imul, 1) := by decide +kernel
theorem dL_law_530 : decode cL_law 530 = .ok (.aload_n 1, 1) := by decide +kernel
theorem dL_law_531 : decode cL_law 531 = .ok (.invokevirtual 165, 3) := by decide +kernel
theorem dL_law_534 : decode cL_law 534 = .ok (.iload 13, 2) := by decide +kernel
theorem dL_law_536 : decode cL_law 536 = .ok (.iconst 2, 1) := by decide +kernel
theorem dL_law_537 : decode cL_law 537 = .ok (.iadd, 1) := by decide +kernel
theorem dL_law_538 : decode cL_law 538 = .ok (.imul, 1) := by decide +kernel
theorem dL_law_539 : decode cL_law 539 = .ok (.if_icmp .gt 25, 3) := by decide +kernel
theorem dL_law_542 : decode cL_law 542 = .ok (.aload_n 1, 1) := by decide +kernel
theorem dL_law_543 : decode cL_law 543 = .ok (.iload 13, 2) := by decide +kernel
theorem dL_law_545 : decode cL_law 545 = .ok (.invokevirtual 171, 3) := by decide +kernel
theorem dL_law_548 : decode cL_law 548 = .ok (.iconst 2, 1) := by decide +kernel
theorem dL_law_549 : decode cL_law 549 = .ok (.imul, 1) := by decide +kernel
theorem dL_law_550 : decode cL_law 550 = .ok (.aload_n 1, 1) := by decide +kernel
theorem dL_law_551 : decode cL_law 551 = .ok (.invokevirtual 165, 3) := by decide +kernel
theorem dL_law_554 : decode cL_law 554 = .ok (.iload 13, 2) := by decide +kernel
theorem dL_law_556 : decode cL_law 556 = .ok (.iconst 2, 1) := by decide +kernel
theorem dL_law_557 : decode cL_law 557 = .ok (.iadd, 1) := by decide +kernel
theorem dL_law_558 : decode cL_law 558 = .ok (.imul, 1) := by decide +kernel
theorem dL_law_559 : decode cL_law 559 = .ok (.iconst 1, 1) := by decide +kernel
theorem dL_law_560 : decode cL_law 560 = .ok (.isub, 1) := by decide +kernel
theorem dL_law_561 : decode cL_law 561 = .ok (.if_icmp .ge 5, 3) := by decide +kernel
theorem dL_law_564 : decode cL_law 564 = .ok (.iconst 0, 1) := by decide +kernel
theorem dL_law_565 : decode cL_law 565 = .ok (.ireturn, 1) := by decide +kernel
theorem dL_law_566 : decode cL_law 566 = .ok (.iinc 13 1, 3) := by decide +kernel
theorem dL_law_569 : decode cL_law 569 = .ok (.goto (-53), 3) := by decide +kernel
theorem dL_law_572 : decode cL_law 572 = .ok (.iload 7, 2) := by decide +kernel
theorem dL_law_574 : decode cL_law 574 = .ok (.ifCond .eq 152, 3) := by decide +kernel
theorem dL_law_577 : decode cL_law 577 = .ok (.iload 4, 2) := by decide +kernel
theorem dL_law_579 : decode cL_law 579 = .ok (.iconst 2, 1) := by decide +kernel
theorem dL_law_580 : decode cL_law 580 = .ok (.ishr, 1) := by decide +kernel
theorem dL_law_581 : decode cL_law 581 = .ok (.iconst 5, 1) := by decide +kernel
theorem dL_law_582 : decode cL_law 582 = .ok (.invokestatic 15, 3) := by decide +kernel
theorem dL_law_585 : decode cL_law 585 = .ok (.ifCond .le 6, 3) := by decide +kernel
theorem dL_law_588 : decode cL_law 588 = .ok (.goto 138, 3) := by decide +kernel
theorem dL_law_591 : decode cL_law 591 = .ok (.iload 4, 2) := by decide +kernel
theorem dL_law_593 : decode cL_law 593 = .ok (.iconst 4, 1) := by decide +kernel
theorem dL_law_594 : decode cL_law 594 = .ok (.ishr, 1) := by decide +kernel
theorem dL_law_595 : decode cL_law 595 = .ok (.iconst 4, 1) := by decide +kernel
theorem dL_law_596 : decode cL_law 596 = .ok (.invokestatic 15, 3) := by decide +kernel
theorem dL_law_599 : decode cL_law 599 = .ok (.istore 13, 2) := by decide +kernel
theorem dL_law_601 : decode cL_law 601 = .ok (.aload_n 1, 1) := by decide +kernel
theorem dL_law_602 : decode cL_law 602 = .ok (.iload 13, 2) := by decide +kernel
theorem dL_law_604 : decode cL_law 604 = .ok (.invokevirtual 171, 3) := by decide +kernel
theorem dL_law_607 : decode cL_law 607 = .ok (.istore 14, 2) := by decide +kernel
theorem dL_law_609 : decode cL_law 609 = .ok (.aload_n 1, 1) := by decide +kernel
theorem dL_law_610 : decode cL_law 610 = .ok (.invokevirtual 174, 3) := by decide +kernel
theorem dL_law_613 : decode cL_law 613 = .ok (.istore 15, 2) := by decide +kernel
theorem dL_law_615 : decode cL_law 615 = .ok (.aload_n 1, 1) := by decide +kernel
theorem dL_law_616 : decode cL_law 616 = .ok (.invokevirtual 176, 3) := by decide +kernel
theorem dL_law_619 : decode cL_law 619 = .ok (.istore 16, 2) := by decide +kernel
theorem dL_law_621 : decode cL_law 621 = .ok (.aload_n 1, 1) := by decide +kernel
theorem dL_law_622 : decode cL_law 622 = .ok (.iload 13, 2) := by decide +kernel
theorem dL_law_624 : decode cL_law 624 = .ok (.invokevirtual 94, 3) := by decide +kernel
theorem dL_law_627 : decode cL_law 627 = .ok (.iload 14, 2) := by decide +kernel
theorem dL_law_629 : decode cL_law 629 = .ok (.if_icmp .ne 60, 3) := by decide +kernel
theorem dL_law_632 : decode cL_law 632 = .ok (.aload_n 1, 1) := by decide +kernel
theorem dL_law_633 : decode cL_law 633 = .ok (.invokevirtual 174, 3) := by decide +kernel
theorem dL_law_636 : decode cL_law 636 = .ok (.iload 15, 2) := by decide +kernel
theorem dL_law_638 : decode cL_law 638 = .ok (.iload 14, 2) := by decide +kernel
theorem dL_law_640 : decode cL_law 640 = .ok (.iadd, 1) := by decide +kernel
theorem dL_law_641 : decode cL_law 641 = .ok (.if_icmp .ne 48, 3) := by decide +kernel
theorem dL_law_644 : decode cL_law 644 = .ok (.aload_n 1, 1) := by decide +kernel
theorem dL_law_645 : decode cL_law 645 = .ok (.invokevirtual 176, 3) := by decide +kernel
theorem dL_law_648 : decode cL_law 648 = .ok (.iload 16, 2) := by decide +kernel
theorem dL_law_650 : decode cL_law 650 = .ok (.iconst 1, 1) := by decide +kernel
theorem dL_law_651 : decode cL_law 651 = .ok (.iadd, 1) := by decide +kernel
theorem dL_law_652 : decode cL_law 652 = .ok (.if_icmp .ne 37, 3) := by decide +kernel
theorem dL_law_655 : decode cL_law 655 = .ok (.aload_n 1, 1) := by decide +kernel
theorem dL_law_656 : decode cL_law 656 = .ok (.invokevirtual 135, 3) := by decide +kernel
theorem dL_law_659 : decode cL_law 659 = .ok (.ifCond .ne 30, 3) := by decide +kernel
theorem dL_law_662 : decode cL_law 662 = .ok (.aload_n 1, 1) := by decide +kernel
theorem dL_law_663 : decode cL_law 663 = .ok (.invokevirtual 155, 3) := by decide +kernel
theorem dL_law_666 : decode cL_law 666 = .ok (.ifCond .ne 23, 3) := by decide +kernel
theorem dL_law_669 : decode cL_law 669 = .ok (.aload_n 1, 1) := by decide +kernel
theorem dL_law_670 : decode cL_law 670 = .ok (.invokevirtual 178, 3) := by decide +kernel
theorem dL_law_673 : decode cL_law 673 = .ok (.iload 15, 2) := by decide +kernel
theorem dL_law_675 : decode cL_law 675 = .ok (.iload 14, 2) := by decide +kernel
theorem dL_law_677 : decode cL_law 677 = .ok (.iadd, 1) := by decide +kernel
theorem dL_law_678 : decode cL_law 678 = .ok (.i2d, 1) := by decide +kernel
theorem dL_law_679 : decode cL_law 679 = .ok (.iload 16, 2) := by decide +kernel
theorem dL_law_681 : decode cL_law 681 = .ok (.iconst 1, 1) := by decide +kernel
theorem dL_law_682 : decode cL_law 682 = .ok (.iadd, 1) := by decide +kernel
theorem dL_law_683 : decode cL_law 683 = .ok (.i2d, 1) := by decide +kernel
theorem dL_law_684 : decode cL_law 684 = .ok (.ddiv, 1) := by decide +kernel
theorem dL_law_685 : decode cL_law 685 = .ok (.dcmp .l, 1) := by decide +kernel
theorem dL_law_686 : decode cL_law 686 = .ok (.ifCond .eq 5, 3) := by decide +kernel
theorem dL_law_689 : decode cL_law 689 = .ok (.iconst 0, 1) := by decide +kernel
theorem dL_law_690 : decode cL_law 690 = .ok (.ireturn, 1) := by decide +kernel
theorem dL_law_691 : decode cL_law 691 = .ok (.aload_n 2, 1) := by decide +kernel
theorem dL_law_692 : decode cL_law 692 = .ok (.iconst 0, 1) := by decide +kernel
theorem dL_law_693 : decode cL_law 693 = .ok (.newarray .int, 2) := by decide +kernel
theorem dL_law_695 : decode cL_law 695 = .ok (.putfield 9, 3) := by decide +kernel
theorem dL_law_698 : decode cL_law 698 = .ok (.aload_n 2, 1) := by decide +kernel
theorem dL_law_699 : decode cL_law 699 = .ok (.iconst 0, 1) := by decide +kernel
theorem dL_law_700 : decode cL_law 700 = .ok (.newarray .boolean, 2) := by decide +kernel
theorem dL_law_702 : decode cL_law 702 = .ok (.putfield 66, 3) := by decide +kernel
theorem dL_law_705 : decode cL_law 705 = .ok (.aload_n 2, 1) := by decide +kernel
theorem dL_law_706 : decode cL_law 706 = .ok (.dup, 1) := by decide +kernel
theorem dL_law_707 : decode cL_law 707 = .ok (.getfield 88, 3) := by decide +kernel
theorem dL_law_710 : decode cL_law 710 = .ok (.iconst 1, 1) := by decide +kernel
theorem dL_law_711 : decode cL_law 711 = .ok (.iadd, 1) := by decide +kernel
theorem dL_law_712 : decode cL_law 712 = .ok (.putfield 88, 3) := by decide +kernel
theorem dL_law_715 : decode cL_law 715 = .ok (.aload_n 2, 1) := by decide +kernel
theorem dL_law_716 : decode cL_law 716 = .ok (.dup, 1) := by decide +kernel
theorem dL_law_717 : decode cL_law 717 = .ok (.getfield 91, 3) := by decide +kernel
theorem dL_law_720 : decode cL_law 720 = .ok (.iload 14, 2) := by decide +kernel
theorem dL_law_722 : decode cL_law 722 = .ok (.iadd, 1) := by decide +kernel
theorem dL_law_723 : decode cL_law 723 = .ok (.putfield 91, 3) := by decide +kernel
theorem dL_law_726 : decode cL_law 726 = .ok (.iinc 3 1, 3) := by decide +kernel
theorem dL_law_729 : decode cL_law 729 = .ok (.goto (-707), 3) := by decide +kernel
theorem dL_law_732 : decode cL_law 732 = .ok (.aload_n 2, 1) := by decide +kernel
theorem dL_law_733 : decode cL_law 733 = .ok (.aload_n 1, 1) := by decide +kernel
theorem dL_law_734 : decode cL_law 734 = .ok (.invokevirtual 182, 3) := by decide +kernel
theorem dL_law_737 : decode cL_law 737 = .ok (.ireturn, 1) := by decide +kernel
