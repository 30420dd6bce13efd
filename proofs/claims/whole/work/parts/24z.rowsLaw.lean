set_option maxRecDepth 20000 in
theorem ggL_law_X0_init : GoodIn wsL_law wsX0_init := goodIn_r _ [9, 10, 11, 12, 13, 14, 15, 16, 17, 18, 19, 20, 21, 22, 23, 24, 25, 26, 27, 28, 29, 30, 31, 32, 588, 589, 590, 591, 592, 593, 594, 595, 596, 597, 598, 599, 600, 601, 602, 603, 604, 605] (by decide +kernel) (by decide +kernel)
set_option maxRecDepth 20000 in
theorem gL_law_X0_init : GoodIn wsL_law (wsX0_init) := ggL_law_X0_init
set_option maxRecDepth 20000 in
theorem ggL_law_X1_init : GoodIn wsL_law wsX1_init := goodIn_r _ [35, 36, 11, 12, 37, 38, 39, 13, 40, 41, 42, 43, 22, 44, 45, 46, 47, 606, 607, 608, 609, 610, 611, 612, 613, 614, 615, 616, 617, 618, 619, 620, 621] (by decide +kernel) (by decide +kernel)
set_option maxRecDepth 20000 in
theorem gL_law_X1_init : GoodIn wsL_law (wsX1_init) := ggL_law_X1_init
set_option maxRecDepth 20000 in
theorem ggL_law_L_addWord : GoodIn wsL_law wsL_addWord := goodIn_ca (goodIn_ca (goodIn_r _ [51, 52, 53, 54, 55, 56, 2, 57, 58, 59, 60, 61, 17, 14, 15, 16, 588, 589, 590, 591, 592, 593, 594, 595, 596, 597, 598, 599, 600, 601, 602, 603, 604, 605] (by decide +kernel) (by decide +kernel)) (goodIn_sub (fun _ h => List.mem_append_left _ (List.mem_append_left _ (List.mem_append_right _ h))) (by decide +kernel))) (goodIn_sub (fun _ h => List.mem_append_left _ (List.mem_append_right _ h)) (by decide +kernel))
set_option maxRecDepth 20000 in
theorem gL_law_L_addWord : GoodIn wsL_law (va_wsS RL 82 yL_addWord wsL_addWord) := goodIn_app (goodIn_of _ (by decide +kernel)) ggL_law_L_addWord
set_option maxRecDepth 20000 in
theorem ggL_law_X1_addWord : GoodIn wsL_law wsX1_addWord := goodIn_r _ [65, 66, 67, 40, 41, 68, 69, 5, 70, 71, 72, 73, 74, 606, 607, 608, 609, 610, 611, 612, 613, 614, 615, 616, 617, 618, 619, 620, 621] (by decide +kernel) (by decide +kernel)
set_option maxRecDepth 20000 in
theorem gL_law_X1_addWord : GoodIn wsL_law (wsV RL 87 RX1 yX1_addWord wsX1_addWord) := goodIn_app (goodIn_of _ (by decide +kernel)) ggL_law_X1_addWord
set_option maxRecDepth 20000 in
theorem ggL_law_X1_thrown : GoodIn wsL_law wsX1_thrown := goodIn_r _ [78, 66, 606, 607, 608, 609, 610, 611, 612, 613, 614, 615, 616, 617, 618, 619, 620, 621] (by decide +kernel) (by decide +kernel)
set_option maxRecDepth 20000 in
theorem gL_law_X1_thrown : GoodIn wsL_law (wsV RL 88 RX1 yX1_thrown wsX1_thrown) := goodIn_app (goodIn_of _ (by decide +kernel)) ggL_law_X1_thrown
set_option maxRecDepth 20000 in
theorem ggL_law_L_turnStandIn : GoodIn wsL_law wsL_turnStandIn := goodIn_ca (goodIn_ca (goodIn_r _ [81, 82, 52, 83, 84, 85, 2, 86, 58, 59, 15, 87, 88, 89, 90, 91, 92, 17, 93, 94, 95, 588, 589, 590, 591, 592, 593, 594, 595, 596, 597, 598, 599, 600, 601, 602, 603, 604, 605] (by decide +kernel) (by decide +kernel)) (goodIn_sub (fun _ h => List.mem_append_left _ (List.mem_append_left _ (List.mem_append_right _ h))) (by decide +kernel))) (goodIn_sub (fun _ h => List.mem_append_right _ h) (by decide +kernel))
set_option maxRecDepth 20000 in
theorem gL_law_L_turnStandIn : GoodIn wsL_law (va_wsS RL 92 yL_turnStandIn wsL_turnStandIn) := goodIn_app (goodIn_of _ (by decide +kernel)) ggL_law_L_turnStandIn
set_option maxRecDepth 20000 in
theorem ggL_law_X1_turnStandIn : GoodIn wsL_law wsX1_turnStandIn := goodIn_r _ [99, 41, 100, 101, 102, 5, 103, 66, 104, 105, 106, 107, 67, 68, 69, 70, 108, 109, 110, 111, 112, 113, 114, 606, 607, 608, 609, 610, 611, 612, 613, 614, 615, 616, 617, 618, 619, 620, 621] (by decide +kernel) (by decide +kernel)
set_option maxRecDepth 20000 in
theorem gL_law_X1_turnStandIn : GoodIn wsL_law (wsV RL 95 RX1 yX1_turnStandIn wsX1_turnStandIn) := goodIn_app (goodIn_of _ (by decide +kernel)) ggL_law_X1_turnStandIn
set_option maxRecDepth 20000 in
theorem ggL_law_L_turnJoin : GoodIn wsL_law wsL_turnJoin := goodIn_ca (goodIn_r _ [117, 82, 118, 119, 120, 2, 121, 16, 87, 88, 89, 90, 91, 92, 17, 93, 94, 95, 588, 589, 590, 591, 592, 593, 594, 595, 596, 597, 598, 599, 600, 601, 602, 603, 604, 605] (by decide +kernel) (by decide +kernel)) (goodIn_sub (fun _ h => List.mem_append_right _ h) (by decide +kernel))
set_option maxRecDepth 20000 in
theorem gL_law_L_turnJoin : GoodIn wsL_law (va_wsS RL 96 yL_turnJoin wsL_turnJoin) := goodIn_app (goodIn_of _ (by decide +kernel)) ggL_law_L_turnJoin
set_option maxRecDepth 20000 in
theorem ggL_law_X1_turnJoin : GoodIn wsL_law wsX1_turnJoin := goodIn_r _ [125, 42, 100, 101, 102, 5, 103, 66, 104, 105, 106, 107, 67, 68, 69, 70, 112, 113, 114, 606, 607, 608, 609, 610, 611, 612, 613, 614, 615, 616, 617, 618, 619, 620, 621] (by decide +kernel) (by decide +kernel)
set_option maxRecDepth 20000 in
theorem gL_law_X1_turnJoin : GoodIn wsL_law (wsV RL 98 RX1 yX1_turnJoin wsX1_turnJoin) := goodIn_app (goodIn_of _ (by decide +kernel)) ggL_law_X1_turnJoin
set_option maxRecDepth 20000 in
theorem ggL_law_L_setLimit : GoodIn wsL_law wsL_setLimit := goodIn_ca (goodIn_r _ [128, 52, 129, 130, 131, 2, 132, 58, 59, 18, 588, 589, 590, 591, 592, 593, 594, 595, 596, 597, 598, 599, 600, 601, 602, 603, 604, 605] (by decide +kernel) (by decide +kernel)) (goodIn_sub (fun _ h => List.mem_append_left _ (List.mem_append_left _ (List.mem_append_right _ h))) (by decide +kernel))
set_option maxRecDepth 20000 in
theorem gL_law_L_setLimit : GoodIn wsL_law (va_wsS RL 99 yL_setLimit wsL_setLimit) := goodIn_app (goodIn_of _ (by decide +kernel)) ggL_law_L_setLimit
set_option maxRecDepth 20000 in
theorem ggL_law_X1_setLimit : GoodIn wsL_law wsX1_setLimit := goodIn_r _ [136, 66, 37, 68, 69, 5, 70, 71, 72, 73, 74, 606, 607, 608, 609, 610, 611, 612, 613, 614, 615, 616, 617, 618, 619, 620, 621] (by decide +kernel) (by decide +kernel)
set_option maxRecDepth 20000 in
theorem gL_law_X1_setLimit : GoodIn wsL_law (wsV RL 101 RX1 yX1_setLimit wsX1_setLimit) := goodIn_app (goodIn_of _ (by decide +kernel)) ggL_law_X1_setLimit
set_option maxRecDepth 20000 in
theorem ggL_law_L_setLeastCount : GoodIn wsL_law wsL_setLeastCount := goodIn_ca (goodIn_r _ [139, 52, 140, 141, 142, 2, 143, 58, 59, 19, 588, 589, 590, 591, 592, 593, 594, 595, 596, 597, 598, 599, 600, 601, 602, 603, 604, 605] (by decide +kernel) (by decide +kernel)) (goodIn_sub (fun _ h => List.mem_append_left _ (List.mem_append_left _ (List.mem_append_right _ h))) (by decide +kernel))
set_option maxRecDepth 20000 in
theorem gL_law_L_setLeastCount : GoodIn wsL_law (va_wsS RL 102 yL_setLeastCount wsL_setLeastCount) := goodIn_app (goodIn_of _ (by decide +kernel)) ggL_law_L_setLeastCount
set_option maxRecDepth 20000 in
theorem ggL_law_X1_setLeastCount : GoodIn wsL_law wsX1_setLeastCount := goodIn_r _ [147, 66, 38, 68, 69, 5, 70, 71, 72, 73, 74, 606, 607, 608, 609, 610, 611, 612, 613, 614, 615, 616, 617, 618, 619, 620, 621] (by decide +kernel) (by decide +kernel)
set_option maxRecDepth 20000 in
theorem gL_law_X1_setLeastCount : GoodIn wsL_law (wsV RL 104 RX1 yX1_setLeastCount wsX1_setLeastCount) := goodIn_app (goodIn_of _ (by decide +kernel)) ggL_law_X1_setLeastCount
set_option maxRecDepth 20000 in
theorem ggL_law_L_setCoins : GoodIn wsL_law wsL_setCoins := goodIn_ca (goodIn_r _ [150, 52, 151, 152, 153, 2, 154, 58, 59, 20, 588, 589, 590, 591, 592, 593, 594, 595, 596, 597, 598, 599, 600, 601, 602, 603, 604, 605] (by decide +kernel) (by decide +kernel)) (goodIn_sub (fun _ h => List.mem_append_left _ (List.mem_append_left _ (List.mem_append_right _ h))) (by decide +kernel))
set_option maxRecDepth 20000 in
theorem gL_law_L_setCoins : GoodIn wsL_law (va_wsS RL 105 yL_setCoins wsL_setCoins) := goodIn_app (goodIn_of _ (by decide +kernel)) ggL_law_L_setCoins
set_option maxRecDepth 20000 in
theorem ggL_law_X1_setCoins : GoodIn wsL_law wsX1_setCoins := goodIn_r _ [158, 66, 39, 68, 69, 5, 70, 71, 72, 73, 74, 606, 607, 608, 609, 610, 611, 612, 613, 614, 615, 616, 617, 618, 619, 620, 621] (by decide +kernel) (by decide +kernel)
set_option maxRecDepth 20000 in
theorem gL_law_X1_setCoins : GoodIn wsL_law (wsV RL 107 RX1 yX1_setCoins wsX1_setCoins) := goodIn_app (goodIn_of _ (by decide +kernel)) ggL_law_X1_setCoins
set_option maxRecDepth 20000 in
theorem ggL_law_L_write : GoodIn wsL_law wsL_write := goodIn_ca (goodIn_ca (goodIn_r _ [161, 82, 53, 162, 163, 164, 2, 165, 60, 61, 24, 21, 23, 87, 88, 89, 90, 91, 92, 17, 588, 589, 590, 591, 592, 593, 594, 595, 596, 597, 598, 599, 600, 601, 602, 603, 604, 605] (by decide +kernel) (by decide +kernel)) (goodIn_sub (fun _ h => List.mem_append_left _ (List.mem_append_right _ h)) (by decide +kernel))) (goodIn_sub (fun _ h => List.mem_append_right _ h) (by decide +kernel))
set_option maxRecDepth 20000 in
theorem gL_law_L_write : GoodIn wsL_law (va_wsS RL 108 yL_write wsL_write) := goodIn_app (goodIn_of _ (by decide +kernel)) ggL_law_L_write
set_option maxRecDepth 20000 in
theorem ggL_law_X1_write : GoodIn wsL_law wsX1_write := goodIn_r _ [169, 66, 170, 43, 44, 104, 105, 106, 5, 107, 67, 68, 69, 70, 71, 72, 73, 74, 606, 607, 608, 609, 610, 611, 612, 613, 614, 615, 616, 617, 618, 619, 620, 621] (by decide +kernel) (by decide +kernel)
set_option maxRecDepth 20000 in
theorem gL_law_X1_write : GoodIn wsL_law (wsV RL 110 RX1 yX1_write wsX1_write) := goodIn_app (goodIn_of _ (by decide +kernel)) ggL_law_X1_write
set_option maxRecDepth 20000 in
theorem ggL_law_L_strike : GoodIn wsL_law wsL_strike := goodIn_ca (goodIn_r _ [173, 82, 174, 175, 176, 2, 177, 23, 24, 21, 178, 179, 180, 181, 91, 92, 588, 589, 590, 591, 592, 593, 594, 595, 596, 597, 598, 599, 600, 601, 602, 603, 604, 605] (by decide +kernel) (by decide +kernel)) (goodIn_sub (fun _ h => List.mem_append_right _ h) (by decide +kernel))
set_option maxRecDepth 20000 in
theorem gL_law_L_strike : GoodIn wsL_law (va_wsS RL 111 yL_strike wsL_strike) := goodIn_app (goodIn_of _ (by decide +kernel)) ggL_law_L_strike
set_option maxRecDepth 20000 in
theorem ggL_law_X1_strike : GoodIn wsL_law wsX1_strike := goodIn_r _ [185, 66, 44, 170, 43, 186, 187, 188, 5, 189, 68, 69, 70, 71, 72, 73, 74, 606, 607, 608, 609, 610, 611, 612, 613, 614, 615, 616, 617, 618, 619, 620, 621] (by decide +kernel) (by decide +kernel)
set_option maxRecDepth 20000 in
theorem gL_law_X1_strike : GoodIn wsL_law (wsV RL 113 RX1 yX1_strike wsX1_strike) := goodIn_app (goodIn_of _ (by decide +kernel)) ggL_law_X1_strike
set_option maxRecDepth 20000 in
theorem ggL_law_L_turnJoined : GoodIn wsL_law wsL_turnJoined := goodIn_ca (goodIn_ca (goodIn_r _ [192, 82, 53, 193, 194, 195, 2, 196, 60, 61, 23, 178, 179, 180, 181, 91, 92, 24, 197, 198, 199, 200, 16, 21, 93, 94, 95, 588, 589, 590, 591, 592, 593, 594, 595, 596, 597, 598, 599, 600, 601, 602, 603, 604, 605] (by decide +kernel) (by decide +kernel)) (goodIn_sub (fun _ h => List.mem_append_left _ (List.mem_append_right _ h)) (by decide +kernel))) (goodIn_sub (fun _ h => List.mem_append_right _ h) (by decide +kernel))
set_option maxRecDepth 20000 in
theorem gL_law_L_turnJoined : GoodIn wsL_law (va_wsS RL 114 yL_turnJoined wsL_turnJoined) := goodIn_app (goodIn_of _ (by decide +kernel)) ggL_law_L_turnJoined
set_option maxRecDepth 20000 in
theorem ggL_law_X1_turnJoined : GoodIn wsL_law wsX1_turnJoined := goodIn_r _ [204, 66, 170, 44, 42, 43, 68, 69, 5, 70, 108, 109, 110, 111, 112, 113, 114, 606, 607, 608, 609, 610, 611, 612, 613, 614, 615, 616, 617, 618, 619, 620, 621] (by decide +kernel) (by decide +kernel)
set_option maxRecDepth 20000 in
theorem gL_law_X1_turnJoined : GoodIn wsL_law (wsV RL 116 RX1 yX1_turnJoined wsX1_turnJoined) := goodIn_app (goodIn_of _ (by decide +kernel)) ggL_law_X1_turnJoined
set_option maxRecDepth 20000 in
theorem ggL_law_X0_reword : GoodIn wsL_law wsX0_reword := goodIn_r _ [208, 24, 21, 31, 23, 32, 209, 210, 211, 2, 212, 14, 213, 214, 215, 216, 217, 218, 219, 220, 18, 221, 222, 223, 224, 19, 225, 226, 227, 228, 229, 230, 231, 232, 28, 27, 30, 233, 234, 235, 236, 237, 238, 239, 240, 241, 17, 242, 243, 244, 245, 15, 93, 94, 95, 246, 247, 248, 249, 16, 250, 251, 252, 253, 254, 255, 256, 257, 258, 259, 260, 588, 589, 590, 591, 592, 593, 594, 595, 596, 597, 598, 599, 600, 601, 602, 603, 604, 605] (by decide +kernel) (by decide +kernel)
set_option maxRecDepth 20000 in
theorem gL_law_X0_reword : GoodIn wsL_law (wsV RL 117 RX0 yX0_reword wsX0_reword) := goodIn_app (goodIn_of _ (by decide +kernel)) ggL_law_X0_reword
set_option maxRecDepth 20000 in
theorem ggL_law_X1_reword : GoodIn wsL_law wsX1_reword := goodIn_r _ [264, 66, 46, 43, 170, 265, 266, 267, 268, 47, 44, 269, 270, 271, 5, 272, 40, 273, 274, 275, 276, 37, 277, 278, 279, 280, 38, 281, 226, 227, 228, 282, 283, 284, 285, 286, 287, 288, 289, 45, 290, 255, 256, 291, 292, 293, 294, 295, 67, 41, 112, 113, 114, 296, 297, 298, 299, 42, 300, 301, 302, 303, 304, 305, 306, 307, 606, 607, 608, 609, 610, 611, 612, 613, 614, 615, 616, 617, 618, 619, 620, 621] (by decide +kernel) (by decide +kernel)
set_option maxRecDepth 20000 in
theorem gL_law_X1_reword : GoodIn wsL_law (wsV RL 120 RX1 yX1_reword wsX1_reword) := goodIn_app (goodIn_of _ (by decide +kernel)) ggL_law_X1_reword
set_option maxRecDepth 20000 in
theorem ggL_law_L_send : GoodIn wsL_law wsL_send := goodIn_ca (goodIn_ca (goodIn_r _ [310, 82, 53, 311, 312, 313, 2, 314, 60, 61, 24, 25, 26, 315, 316, 317, 318, 91, 92, 319, 320, 321, 322, 20, 209, 210, 211, 212, 23, 21, 14, 213, 214, 215, 216, 217, 218, 219, 220, 18, 221, 222, 223, 224, 19, 225, 226, 227, 228, 588, 589, 590, 591, 592, 593, 594, 595, 596, 597, 598, 599, 600, 601, 602, 603, 604, 605] (by decide +kernel) (by decide +kernel)) (goodIn_sub (fun _ h => List.mem_append_left _ (List.mem_append_right _ h)) (by decide +kernel))) (goodIn_sub (fun _ h => List.mem_append_right _ h) (by decide +kernel))
set_option maxRecDepth 20000 in
theorem gL_law_L_send : GoodIn wsL_law (va_wsS RL 121 yL_send wsL_send) := goodIn_app (goodIn_of _ (by decide +kernel)) ggL_law_L_send
set_option maxRecDepth 20000 in
theorem ggL_law_X1_send : GoodIn wsL_law wsX1_send := goodIn_r _ [326, 66, 170, 327, 328, 68, 69, 5, 70, 71, 72, 73, 74, 329, 330, 331, 332, 39, 269, 270, 271, 272, 40, 43, 44, 273, 274, 275, 276, 37, 277, 278, 279, 280, 38, 281, 226, 227, 228, 606, 607, 608, 609, 610, 611, 612, 613, 614, 615, 616, 617, 618, 619, 620, 621] (by decide +kernel) (by decide +kernel)
set_option maxRecDepth 20000 in
theorem gL_law_X1_send : GoodIn wsL_law (wsV RL 123 RX1 yX1_send wsX1_send) := goodIn_app (goodIn_of _ (by decide +kernel)) ggL_law_X1_send
set_option maxRecDepth 20000 in
theorem ggL_law_X0_words : GoodIn wsL_law wsX0_words := goodIn_r _ [336, 17, 588, 589, 590, 591, 592, 593, 594, 595, 596, 597, 598, 599, 600, 601, 602, 603, 604, 605] (by decide +kernel) (by decide +kernel)
set_option maxRecDepth 20000 in
theorem gL_law_X0_words : GoodIn wsL_law (wsV RL 124 RX0 yX0_words wsX0_words) := goodIn_app (goodIn_of _ (by decide +kernel)) ggL_law_X0_words
set_option maxRecDepth 20000 in
theorem ggL_law_X1_words : GoodIn wsL_law wsX1_words := goodIn_r _ [340, 67, 341, 342, 343, 5, 344, 66, 606, 607, 608, 609, 610, 611, 612, 613, 614, 615, 616, 617, 618, 619, 620, 621] (by decide +kernel) (by decide +kernel)
set_option maxRecDepth 20000 in
theorem gL_law_X1_words : GoodIn wsL_law (wsV RL 127 RX1 yX1_words wsX1_words) := goodIn_app (goodIn_of _ (by decide +kernel)) ggL_law_X1_words
set_option maxRecDepth 20000 in
theorem ggL_law_L_lettersOf : GoodIn wsL_law wsL_lettersOf := goodIn_ca (goodIn_r _ [347, 82, 348, 349, 350, 2, 351, 14, 87, 88, 89, 90, 91, 92, 17, 588, 589, 590, 591, 592, 593, 594, 595, 596, 597, 598, 599, 600, 601, 602, 603, 604, 605] (by decide +kernel) (by decide +kernel)) (goodIn_sub (fun _ h => List.mem_append_right _ h) (by decide +kernel))
set_option maxRecDepth 20000 in
theorem gL_law_L_lettersOf : GoodIn wsL_law (va_wsS RL 128 yL_lettersOf wsL_lettersOf) := goodIn_app (goodIn_of _ (by decide +kernel)) ggL_law_L_lettersOf
set_option maxRecDepth 20000 in
theorem ggL_law_X1_lettersOf : GoodIn wsL_law wsX1_lettersOf := goodIn_r _ [355, 66, 40, 104, 105, 106, 5, 107, 67, 68, 69, 70, 71, 72, 73, 74, 606, 607, 608, 609, 610, 611, 612, 613, 614, 615, 616, 617, 618, 619, 620, 621] (by decide +kernel) (by decide +kernel)
set_option maxRecDepth 20000 in
theorem gL_law_X1_lettersOf : GoodIn wsL_law (wsV RL 130 RX1 yX1_lettersOf wsX1_lettersOf) := goodIn_app (goodIn_of _ (by decide +kernel)) ggL_law_X1_lettersOf
set_option maxRecDepth 20000 in
theorem ggL_law_L_countOf : GoodIn wsL_law wsL_countOf := goodIn_ca (goodIn_r _ [358, 82, 359, 360, 361, 2, 362, 14, 87, 88, 89, 90, 91, 92, 17, 217, 218, 219, 220, 18, 588, 589, 590, 591, 592, 593, 594, 595, 596, 597, 598, 599, 600, 601, 602, 603, 604, 605] (by decide +kernel) (by decide +kernel)) (goodIn_sub (fun _ h => List.mem_append_right _ h) (by decide +kernel))
set_option maxRecDepth 20000 in
theorem gL_law_L_countOf : GoodIn wsL_law (va_wsS RL 131 yL_countOf wsL_countOf) := goodIn_app (goodIn_of _ (by decide +kernel)) ggL_law_L_countOf
set_option maxRecDepth 20000 in
theorem ggL_law_X1_countOf : GoodIn wsL_law wsX1_countOf := goodIn_r _ [366, 66, 40, 104, 105, 106, 5, 107, 67, 68, 69, 70, 273, 274, 275, 276, 37, 71, 72, 73, 74, 606, 607, 608, 609, 610, 611, 612, 613, 614, 615, 616, 617, 618, 619, 620, 621] (by decide +kernel) (by decide +kernel)
set_option maxRecDepth 20000 in
theorem gL_law_X1_countOf : GoodIn wsL_law (wsV RL 133 RX1 yX1_countOf wsX1_countOf) := goodIn_app (goodIn_of _ (by decide +kernel)) ggL_law_X1_countOf
set_option maxRecDepth 20000 in
theorem ggL_law_L_mayStandFor : GoodIn wsL_law wsL_mayStandFor := goodIn_ca (goodIn_r _ [369, 82, 370, 371, 372, 2, 373, 15, 87, 88, 89, 90, 91, 92, 17, 93, 94, 95, 588, 589, 590, 591, 592, 593, 594, 595, 596, 597, 598, 599, 600, 601, 602, 603, 604, 605] (by decide +kernel) (by decide +kernel)) (goodIn_sub (fun _ h => List.mem_append_right _ h) (by decide +kernel))
set_option maxRecDepth 20000 in
theorem gL_law_L_mayStandFor : GoodIn wsL_law (va_wsS RL 134 yL_mayStandFor wsL_mayStandFor) := goodIn_app (goodIn_of _ (by decide +kernel)) ggL_law_L_mayStandFor
set_option maxRecDepth 20000 in
theorem ggL_law_X1_mayStandFor : GoodIn wsL_law wsX1_mayStandFor := goodIn_r _ [377, 41, 100, 101, 102, 5, 103, 66, 104, 105, 106, 107, 67, 68, 69, 70, 112, 113, 114, 606, 607, 608, 609, 610, 611, 612, 613, 614, 615, 616, 617, 618, 619, 620, 621] (by decide +kernel) (by decide +kernel)
set_option maxRecDepth 20000 in
theorem gL_law_X1_mayStandFor : GoodIn wsL_law (wsV RL 136 RX1 yX1_mayStandFor wsX1_mayStandFor) := goodIn_app (goodIn_of _ (by decide +kernel)) ggL_law_X1_mayStandFor
set_option maxRecDepth 20000 in
theorem ggL_law_L_mayJoin : GoodIn wsL_law wsL_mayJoin := goodIn_ca (goodIn_r _ [380, 82, 381, 382, 383, 2, 384, 16, 87, 88, 89, 90, 91, 92, 17, 93, 94, 95, 588, 589, 590, 591, 592, 593, 594, 595, 596, 597, 598, 599, 600, 601, 602, 603, 604, 605] (by decide +kernel) (by decide +kernel)) (goodIn_sub (fun _ h => List.mem_append_right _ h) (by decide +kernel))
set_option maxRecDepth 20000 in
theorem gL_law_L_mayJoin : GoodIn wsL_law (va_wsS RL 137 yL_mayJoin wsL_mayJoin) := goodIn_app (goodIn_of _ (by decide +kernel)) ggL_law_L_mayJoin
set_option maxRecDepth 20000 in
theorem ggL_law_X1_mayJoin : GoodIn wsL_law wsX1_mayJoin := goodIn_r _ [388, 42, 100, 101, 102, 5, 103, 66, 104, 105, 106, 107, 67, 68, 69, 70, 112, 113, 114, 606, 607, 608, 609, 610, 611, 612, 613, 614, 615, 616, 617, 618, 619, 620, 621] (by decide +kernel) (by decide +kernel)
set_option maxRecDepth 20000 in
theorem gL_law_X1_mayJoin : GoodIn wsL_law (wsV RL 139 RX1 yX1_mayJoin wsX1_mayJoin) := goodIn_app (goodIn_of _ (by decide +kernel)) ggL_law_X1_mayJoin
set_option maxRecDepth 20000 in
theorem ggL_law_L_standInsOf : GoodIn wsL_law wsL_standInsOf := goodIn_ca (goodIn_r _ [391, 82, 392, 393, 394, 2, 395, 15, 87, 88, 89, 90, 91, 92, 17, 396, 397, 398, 399, 400, 401, 402, 588, 589, 590, 591, 592, 593, 594, 595, 596, 597, 598, 599, 600, 601, 602, 603, 604, 605] (by decide +kernel) (by decide +kernel)) (goodIn_sub (fun _ h => List.mem_append_right _ h) (by decide +kernel))
set_option maxRecDepth 20000 in
theorem gL_law_L_standInsOf : GoodIn wsL_law (va_wsS RL 140 yL_standInsOf wsL_standInsOf) := goodIn_app (goodIn_of _ (by decide +kernel)) ggL_law_L_standInsOf
set_option maxRecDepth 20000 in
theorem ggL_law_X1_standInsOf : GoodIn wsL_law wsX1_standInsOf := goodIn_r _ [406, 66, 104, 105, 106, 5, 107, 67, 68, 69, 70, 407, 408, 409, 410, 41, 71, 72, 73, 74, 606, 607, 608, 609, 610, 611, 612, 613, 614, 615, 616, 617, 618, 619, 620, 621] (by decide +kernel) (by decide +kernel)
set_option maxRecDepth 20000 in
theorem gL_law_X1_standInsOf : GoodIn wsL_law (wsV RL 142 RX1 yX1_standInsOf wsX1_standInsOf) := goodIn_app (goodIn_of _ (by decide +kernel)) ggL_law_X1_standInsOf
set_option maxRecDepth 20000 in
theorem ggL_law_X0_limit : GoodIn wsL_law wsX0_limit := goodIn_r _ [414, 18, 588, 589, 590, 591, 592, 593, 594, 595, 596, 597, 598, 599, 600, 601, 602, 603, 604, 605] (by decide +kernel) (by decide +kernel)
set_option maxRecDepth 20000 in
theorem gL_law_X0_limit : GoodIn wsL_law (wsV RL 143 RX0 yX0_limit wsX0_limit) := goodIn_app (goodIn_of _ (by decide +kernel)) ggL_law_X0_limit
set_option maxRecDepth 20000 in
theorem ggL_law_X1_limit : GoodIn wsL_law wsX1_limit := goodIn_r _ [418, 37, 341, 342, 343, 5, 344, 66, 606, 607, 608, 609, 610, 611, 612, 613, 614, 615, 616, 617, 618, 619, 620, 621] (by decide +kernel) (by decide +kernel)
set_option maxRecDepth 20000 in
theorem gL_law_X1_limit : GoodIn wsL_law (wsV RL 146 RX1 yX1_limit wsX1_limit) := goodIn_app (goodIn_of _ (by decide +kernel)) ggL_law_X1_limit
set_option maxRecDepth 20000 in
theorem ggL_law_X0_leastCount : GoodIn wsL_law wsX0_leastCount := goodIn_r _ [422, 19, 588, 589, 590, 591, 592, 593, 594, 595, 596, 597, 598, 599, 600, 601, 602, 603, 604, 605] (by decide +kernel) (by decide +kernel)
set_option maxRecDepth 20000 in
theorem gL_law_X0_leastCount : GoodIn wsL_law (wsV RL 147 RX0 yX0_leastCount wsX0_leastCount) := goodIn_app (goodIn_of _ (by decide +kernel)) ggL_law_X0_leastCount
set_option maxRecDepth 20000 in
theorem ggL_law_X1_leastCount : GoodIn wsL_law wsX1_leastCount := goodIn_r _ [426, 38, 341, 342, 343, 5, 344, 66, 606, 607, 608, 609, 610, 611, 612, 613, 614, 615, 616, 617, 618, 619, 620, 621] (by decide +kernel) (by decide +kernel)
set_option maxRecDepth 20000 in
theorem gL_law_X1_leastCount : GoodIn wsL_law (wsV RL 150 RX1 yX1_leastCount wsX1_leastCount) := goodIn_app (goodIn_of _ (by decide +kernel)) ggL_law_X1_leastCount
set_option maxRecDepth 20000 in
theorem ggL_law_X0_coins : GoodIn wsL_law wsX0_coins := goodIn_r _ [430, 20, 588, 589, 590, 591, 592, 593, 594, 595, 596, 597, 598, 599, 600, 601, 602, 603, 604, 605] (by decide +kernel) (by decide +kernel)
set_option maxRecDepth 20000 in
theorem gL_law_X0_coins : GoodIn wsL_law (wsV RL 151 RX0 yX0_coins wsX0_coins) := goodIn_app (goodIn_of _ (by decide +kernel)) ggL_law_X0_coins
set_option maxRecDepth 20000 in
theorem ggL_law_X1_coins : GoodIn wsL_law wsX1_coins := goodIn_r _ [434, 39, 341, 342, 343, 5, 344, 66, 606, 607, 608, 609, 610, 611, 612, 613, 614, 615, 616, 617, 618, 619, 620, 621] (by decide +kernel) (by decide +kernel)
set_option maxRecDepth 20000 in
theorem gL_law_X1_coins : GoodIn wsL_law (wsV RL 154 RX1 yX1_coins wsX1_coins) := goodIn_app (goodIn_of _ (by decide +kernel)) ggL_law_X1_coins
set_option maxRecDepth 20000 in
theorem ggL_law_X0_length : GoodIn wsL_law wsX0_length := goodIn_r _ [438, 24, 588, 589, 590, 591, 592, 593, 594, 595, 596, 597, 598, 599, 600, 601, 602, 603, 604, 605] (by decide +kernel) (by decide +kernel)
set_option maxRecDepth 20000 in
theorem gL_law_X0_length : GoodIn wsL_law (wsV RL 155 RX0 yX0_length wsX0_length) := goodIn_app (goodIn_of _ (by decide +kernel)) ggL_law_X0_length
set_option maxRecDepth 20000 in
theorem ggL_law_X1_length : GoodIn wsL_law wsX1_length := goodIn_r _ [442, 170, 341, 342, 343, 5, 344, 66, 606, 607, 608, 609, 610, 611, 612, 613, 614, 615, 616, 617, 618, 619, 620, 621] (by decide +kernel) (by decide +kernel)
set_option maxRecDepth 20000 in
theorem gL_law_X1_length : GoodIn wsL_law (wsV RL 158 RX1 yX1_length wsX1_length) := goodIn_app (goodIn_of _ (by decide +kernel)) ggL_law_X1_length
set_option maxRecDepth 20000 in
theorem ggL_law_L_wordAt : GoodIn wsL_law wsL_wordAt := goodIn_ca (goodIn_r _ [445, 82, 446, 447, 448, 2, 449, 21, 178, 179, 180, 181, 91, 92, 24, 588, 589, 590, 591, 592, 593, 594, 595, 596, 597, 598, 599, 600, 601, 602, 603, 604, 605] (by decide +kernel) (by decide +kernel)) (goodIn_sub (fun _ h => List.mem_append_right _ h) (by decide +kernel))
set_option maxRecDepth 20000 in
theorem gL_law_L_wordAt : GoodIn wsL_law (va_wsS RL 159 yL_wordAt wsL_wordAt) := goodIn_app (goodIn_of _ (by decide +kernel)) ggL_law_L_wordAt
set_option maxRecDepth 20000 in
theorem ggL_law_X1_wordAt : GoodIn wsL_law wsX1_wordAt := goodIn_r _ [453, 66, 43, 186, 187, 188, 5, 189, 170, 68, 69, 70, 71, 72, 73, 74, 606, 607, 608, 609, 610, 611, 612, 613, 614, 615, 616, 617, 618, 619, 620, 621] (by decide +kernel) (by decide +kernel)
set_option maxRecDepth 20000 in
theorem gL_law_X1_wordAt : GoodIn wsL_law (wsV RL 161 RX1 yX1_wordAt wsX1_wordAt) := goodIn_app (goodIn_of _ (by decide +kernel)) ggL_law_X1_wordAt
set_option maxRecDepth 20000 in
theorem ggL_law_L_isJoined : GoodIn wsL_law wsL_isJoined := goodIn_ca (goodIn_r _ [456, 82, 457, 458, 459, 2, 460, 23, 178, 179, 180, 181, 91, 92, 24, 588, 589, 590, 591, 592, 593, 594, 595, 596, 597, 598, 599, 600, 601, 602, 603, 604, 605] (by decide +kernel) (by decide +kernel)) (goodIn_sub (fun _ h => List.mem_append_right _ h) (by decide +kernel))
set_option maxRecDepth 20000 in
theorem gL_law_L_isJoined : GoodIn wsL_law (va_wsS RL 162 yL_isJoined wsL_isJoined) := goodIn_app (goodIn_of _ (by decide +kernel)) ggL_law_L_isJoined
set_option maxRecDepth 20000 in
theorem ggL_law_X1_isJoined : GoodIn wsL_law wsX1_isJoined := goodIn_r _ [464, 66, 44, 186, 187, 188, 5, 189, 170, 68, 69, 70, 108, 109, 110, 111, 606, 607, 608, 609, 610, 611, 612, 613, 614, 615, 616, 617, 618, 619, 620, 621] (by decide +kernel) (by decide +kernel)
set_option maxRecDepth 20000 in
theorem gL_law_X1_isJoined : GoodIn wsL_law (wsV RL 164 RX1 yX1_isJoined wsX1_isJoined) := goodIn_app (goodIn_of _ (by decide +kernel)) ggL_law_X1_isJoined
set_option maxRecDepth 20000 in
theorem ggL_law_X0_count : GoodIn wsL_law wsX0_count := goodIn_r _ [212, 24, 23, 21, 14, 213, 214, 215, 2, 216, 217, 218, 219, 220, 18, 221, 222, 223, 224, 19, 225, 226, 227, 228, 588, 589, 590, 591, 592, 593, 594, 595, 596, 597, 598, 599, 600, 601, 602, 603, 604, 605] (by decide +kernel) (by decide +kernel)
set_option maxRecDepth 20000 in
theorem gL_law_X0_count : GoodIn wsL_law (wsV RL 165 RX0 yX0_count wsX0_count) := goodIn_app (goodIn_of _ (by decide +kernel)) ggL_law_X0_count
set_option maxRecDepth 20000 in
theorem ggL_law_X1_count : GoodIn wsL_law wsX1_count := goodIn_r _ [469, 269, 270, 271, 5, 272, 170, 40, 43, 44, 273, 274, 275, 276, 37, 277, 278, 279, 280, 38, 281, 226, 227, 228, 341, 342, 343, 344, 66, 606, 607, 608, 609, 610, 611, 612, 613, 614, 615, 616, 617, 618, 619, 620, 621] (by decide +kernel) (by decide +kernel)
set_option maxRecDepth 20000 in
theorem gL_law_X1_count : GoodIn wsL_law (wsV RL 168 RX1 yX1_count wsX1_count) := goodIn_app (goodIn_of _ (by decide +kernel)) ggL_law_X1_count
set_option maxRecDepth 20000 in
theorem ggL_law_X0_price : GoodIn wsL_law wsX0_price := goodIn_r _ [322, 20, 209, 210, 211, 2, 212, 24, 23, 21, 14, 213, 214, 215, 216, 217, 218, 219, 220, 18, 221, 222, 223, 224, 19, 225, 226, 227, 228, 588, 589, 590, 591, 592, 593, 594, 595, 596, 597, 598, 599, 600, 601, 602, 603, 604, 605] (by decide +kernel) (by decide +kernel)
set_option maxRecDepth 20000 in
theorem gL_law_X0_price : GoodIn wsL_law (wsV RL 169 RX0 yX0_price wsX0_price) := goodIn_app (goodIn_of _ (by decide +kernel)) ggL_law_X0_price
set_option maxRecDepth 20000 in
theorem ggL_law_X1_price : GoodIn wsL_law wsX1_price := goodIn_r _ [474, 39, 269, 270, 271, 5, 272, 170, 40, 43, 44, 273, 274, 275, 276, 37, 277, 278, 279, 280, 38, 281, 226, 227, 228, 341, 342, 343, 344, 66, 606, 607, 608, 609, 610, 611, 612, 613, 614, 615, 616, 617, 618, 619, 620, 621] (by decide +kernel) (by decide +kernel)
set_option maxRecDepth 20000 in
theorem gL_law_X1_price : GoodIn wsL_law (wsV RL 172 RX1 yX1_price wsX1_price) := goodIn_app (goodIn_of _ (by decide +kernel)) ggL_law_X1_price
set_option maxRecDepth 20000 in
theorem ggL_law_L_priceTo : GoodIn wsL_law wsL_priceTo := goodIn_ca (goodIn_r _ [477, 82, 478, 316, 317, 2, 318, 91, 92, 319, 320, 321, 322, 20, 209, 210, 211, 212, 24, 23, 21, 14, 213, 214, 215, 216, 217, 218, 219, 220, 18, 221, 222, 223, 224, 19, 225, 226, 227, 228, 588, 589, 590, 591, 592, 593, 594, 595, 596, 597, 598, 599, 600, 601, 602, 603, 604, 605] (by decide +kernel) (by decide +kernel)) (goodIn_sub (fun _ h => List.mem_append_right _ h) (by decide +kernel))
set_option maxRecDepth 20000 in
theorem gL_law_L_priceTo : GoodIn wsL_law (va_wsS RL 173 yL_priceTo wsL_priceTo) := goodIn_app (goodIn_of _ (by decide +kernel)) ggL_law_L_priceTo
set_option maxRecDepth 20000 in
theorem ggL_law_X1_priceTo : GoodIn wsL_law wsX1_priceTo := goodIn_r _ [482, 66, 68, 69, 5, 70, 329, 330, 331, 332, 39, 269, 270, 271, 272, 170, 40, 43, 44, 273, 274, 275, 276, 37, 277, 278, 279, 280, 38, 281, 226, 227, 228, 71, 72, 73, 74, 606, 607, 608, 609, 610, 611, 612, 613, 614, 615, 616, 617, 618, 619, 620, 621] (by decide +kernel) (by decide +kernel)
set_option maxRecDepth 20000 in
theorem gL_law_X1_priceTo : GoodIn wsL_law (wsV RL 175 RX1 yX1_priceTo wsX1_priceTo) := goodIn_app (goodIn_of _ (by decide +kernel)) ggL_law_X1_priceTo
set_option maxRecDepth 20000 in
theorem ggL_law_X0_sent : GoodIn wsL_law wsX0_sent := goodIn_r _ [486, 25, 588, 589, 590, 591, 592, 593, 594, 595, 596, 597, 598, 599, 600, 601, 602, 603, 604, 605] (by decide +kernel) (by decide +kernel)
set_option maxRecDepth 20000 in
theorem gL_law_X0_sent : GoodIn wsL_law (wsV RL 176 RX0 yX0_sent wsX0_sent) := goodIn_app (goodIn_of _ (by decide +kernel)) ggL_law_X0_sent
set_option maxRecDepth 20000 in
theorem ggL_law_X1_sent : GoodIn wsL_law wsX1_sent := goodIn_r _ [490, 327, 341, 342, 343, 5, 344, 66, 606, 607, 608, 609, 610, 611, 612, 613, 614, 615, 616, 617, 618, 619, 620, 621] (by decide +kernel) (by decide +kernel)
set_option maxRecDepth 20000 in
theorem gL_law_X1_sent : GoodIn wsL_law (wsV RL 179 RX1 yX1_sent wsX1_sent) := goodIn_app (goodIn_of _ (by decide +kernel)) ggL_law_X1_sent
set_option maxRecDepth 20000 in
theorem ggL_law_X0_earned : GoodIn wsL_law wsX0_earned := goodIn_r _ [494, 26, 588, 589, 590, 591, 592, 593, 594, 595, 596, 597, 598, 599, 600, 601, 602, 603, 604, 605] (by decide +kernel) (by decide +kernel)
set_option maxRecDepth 20000 in
theorem gL_law_X0_earned : GoodIn wsL_law (wsV RL 180 RX0 yX0_earned wsX0_earned) := goodIn_app (goodIn_of _ (by decide +kernel)) ggL_law_X0_earned
set_option maxRecDepth 20000 in
theorem ggL_law_X1_earned : GoodIn wsL_law wsX1_earned := goodIn_r _ [498, 328, 341, 342, 343, 5, 344, 66, 606, 607, 608, 609, 610, 611, 612, 613, 614, 615, 616, 617, 618, 619, 620, 621] (by decide +kernel) (by decide +kernel)
set_option maxRecDepth 20000 in
theorem gL_law_X1_earned : GoodIn wsL_law (wsV RL 183 RX1 yX1_earned wsX1_earned) := goodIn_app (goodIn_of _ (by decide +kernel)) ggL_law_X1_earned
set_option maxRecDepth 20000 in
theorem ggL_law_X0_cheapestCount : GoodIn wsL_law wsX0_cheapestCount := goodIn_r _ [502, 28, 233, 234, 235, 2, 236, 24, 27, 14, 237, 238, 239, 240, 241, 21, 17, 242, 243, 244, 245, 15, 93, 94, 95, 217, 218, 219, 220, 18, 246, 247, 248, 249, 16, 213, 214, 215, 216, 250, 251, 252, 253, 30, 254, 255, 227, 256, 221, 222, 223, 224, 19, 225, 226, 228, 588, 589, 590, 591, 592, 593, 594, 595, 596, 597, 598, 599, 600, 601, 602, 603, 604, 605] (by decide +kernel) (by decide +kernel)
set_option maxRecDepth 20000 in
theorem gL_law_X0_cheapestCount : GoodIn wsL_law (wsV RL 184 RX0 yX0_cheapestCount wsX0_cheapestCount) := goodIn_app (goodIn_of _ (by decide +kernel)) ggL_law_X0_cheapestCount
set_option maxRecDepth 20000 in
theorem ggL_law_X1_cheapestCount : GoodIn wsL_law wsX1_cheapestCount := goodIn_r _ [506, 286, 287, 288, 5, 289, 45, 170, 290, 255, 227, 256, 291, 292, 293, 294, 295, 67, 41, 43, 40, 112, 113, 114, 273, 274, 275, 276, 37, 296, 297, 298, 299, 42, 277, 278, 279, 280, 38, 281, 226, 228, 341, 342, 343, 344, 66, 606, 607, 608, 609, 610, 611, 612, 613, 614, 615, 616, 617, 618, 619, 620, 621] (by decide +kernel) (by decide +kernel)
set_option maxRecDepth 20000 in
theorem gL_law_X1_cheapestCount : GoodIn wsL_law (wsV RL 187 RX1 yX1_cheapestCount wsX1_cheapestCount) := goodIn_app (goodIn_of _ (by decide +kernel)) ggL_law_X1_cheapestCount
set_option maxRecDepth 20000 in
theorem ggL_law_L_cheapestWordAt : GoodIn wsL_law wsL_cheapestWordAt := goodIn_ca (goodIn_r _ [509, 82, 510, 511, 512, 2, 513, 31, 178, 179, 180, 181, 91, 92, 24, 229, 230, 231, 232, 28, 27, 30, 233, 234, 235, 236, 14, 237, 238, 239, 240, 241, 21, 17, 242, 243, 244, 245, 15, 93, 94, 95, 217, 218, 219, 220, 18, 246, 247, 248, 249, 16, 213, 214, 215, 216, 250, 251, 252, 253, 254, 255, 227, 256, 257, 258, 259, 260, 32, 588, 589, 590, 591, 592, 593, 594, 595, 596, 597, 598, 599, 600, 601, 602, 603, 604, 605] (by decide +kernel) (by decide +kernel)) (goodIn_sub (fun _ h => List.mem_append_right _ h) (by decide +kernel))
set_option maxRecDepth 20000 in
theorem gL_law_L_cheapestWordAt : GoodIn wsL_law (va_wsS RL 188 yL_cheapestWordAt wsL_cheapestWordAt) := goodIn_app (goodIn_of _ (by decide +kernel)) ggL_law_L_cheapestWordAt
set_option maxRecDepth 20000 in
theorem ggL_law_X1_cheapestWordAt : GoodIn wsL_law wsX1_cheapestWordAt := goodIn_r _ [517, 66, 46, 186, 187, 188, 5, 189, 170, 68, 69, 70, 71, 72, 73, 74, 282, 283, 284, 285, 47, 286, 287, 288, 289, 45, 290, 255, 227, 256, 291, 292, 293, 294, 295, 67, 41, 43, 40, 112, 113, 114, 273, 274, 275, 276, 37, 296, 297, 298, 299, 42, 300, 301, 302, 303, 304, 305, 306, 307, 606, 607, 608, 609, 610, 611, 612, 613, 614, 615, 616, 617, 618, 619, 620, 621] (by decide +kernel) (by decide +kernel)
set_option maxRecDepth 20000 in
theorem gL_law_X1_cheapestWordAt : GoodIn wsL_law (wsV RL 190 RX1 yX1_cheapestWordAt wsX1_cheapestWordAt) := goodIn_app (goodIn_of _ (by decide +kernel)) ggL_law_X1_cheapestWordAt
set_option maxRecDepth 20000 in
theorem ggL_law_L_isJoinedInCheapest : GoodIn wsL_law wsL_isJoinedInCheapest := goodIn_ca (goodIn_r _ [520, 82, 521, 522, 523, 2, 524, 32, 178, 179, 180, 181, 91, 92, 24, 229, 230, 231, 232, 28, 27, 30, 233, 234, 235, 236, 14, 237, 238, 239, 240, 241, 21, 17, 242, 243, 244, 245, 15, 93, 94, 95, 217, 218, 219, 220, 18, 246, 247, 248, 249, 16, 213, 214, 215, 216, 250, 251, 252, 253, 254, 255, 227, 256, 257, 258, 259, 260, 31, 588, 589, 590, 591, 592, 593, 594, 595, 596, 597, 598, 599, 600, 601, 602, 603, 604, 605] (by decide +kernel) (by decide +kernel)) (goodIn_sub (fun _ h => List.mem_append_right _ h) (by decide +kernel))
set_option maxRecDepth 20000 in
theorem gL_law_L_isJoinedInCheapest : GoodIn wsL_law (va_wsS RL 191 yL_isJoinedInCheapest wsL_isJoinedInCheapest) := goodIn_app (goodIn_of _ (by decide +kernel)) ggL_law_L_isJoinedInCheapest
set_option maxRecDepth 20000 in
theorem ggL_law_X1_isJoinedInCheapest : GoodIn wsL_law wsX1_isJoinedInCheapest := goodIn_r _ [528, 66, 47, 186, 187, 188, 5, 189, 170, 68, 69, 70, 108, 109, 110, 111, 282, 283, 284, 285, 46, 286, 287, 288, 289, 45, 290, 255, 227, 256, 291, 292, 293, 294, 295, 67, 41, 43, 40, 112, 113, 114, 273, 274, 275, 276, 37, 296, 297, 298, 299, 42, 300, 301, 302, 303, 304, 305, 306, 307, 606, 607, 608, 609, 610, 611, 612, 613, 614, 615, 616, 617, 618, 619, 620, 621] (by decide +kernel) (by decide +kernel)
set_option maxRecDepth 20000 in
theorem gL_law_X1_isJoinedInCheapest : GoodIn wsL_law (wsV RL 193 RX1 yX1_isJoinedInCheapest wsX1_isJoinedInCheapest) := goodIn_app (goodIn_of _ (by decide +kernel)) ggL_law_X1_isJoinedInCheapest
set_option maxRecDepth 20000 in
theorem ggL_law_X0_saves : GoodIn wsL_law wsX0_saves := goodIn_r _ [532, 20, 319, 320, 321, 2, 322, 209, 210, 211, 212, 24, 23, 21, 14, 213, 214, 215, 216, 217, 218, 219, 220, 18, 221, 222, 223, 224, 19, 225, 226, 227, 228, 533, 500, 501, 502, 28, 233, 234, 235, 236, 27, 237, 238, 239, 240, 241, 17, 242, 243, 244, 245, 15, 93, 94, 95, 246, 247, 248, 249, 16, 250, 251, 252, 253, 30, 254, 255, 256, 588, 589, 590, 591, 592, 593, 594, 595, 596, 597, 598, 599, 600, 601, 602, 603, 604, 605] (by decide +kernel) (by decide +kernel)
set_option maxRecDepth 20000 in
theorem gL_law_X0_saves : GoodIn wsL_law (wsV RL 194 RX0 yX0_saves wsX0_saves) := goodIn_app (goodIn_of _ (by decide +kernel)) ggL_law_X0_saves
set_option maxRecDepth 20000 in
theorem ggL_law_X1_saves : GoodIn wsL_law wsX1_saves := goodIn_r _ [537, 39, 269, 270, 271, 5, 272, 170, 40, 43, 44, 273, 274, 275, 276, 37, 277, 278, 279, 280, 38, 281, 226, 227, 228, 286, 287, 288, 289, 45, 290, 255, 256, 291, 292, 293, 294, 295, 67, 41, 112, 113, 114, 296, 297, 298, 299, 42, 341, 342, 343, 344, 66, 606, 607, 608, 609, 610, 611, 612, 613, 614, 615, 616, 617, 618, 619, 620, 621] (by decide +kernel) (by decide +kernel)
set_option maxRecDepth 20000 in
theorem gL_law_X1_saves : GoodIn wsL_law (wsV RL 197 RX1 yX1_saves wsX1_saves) := goodIn_app (goodIn_of _ (by decide +kernel)) ggL_law_X1_saves
set_option maxRecDepth 20000 in
theorem ggL_law_X0_wordings : GoodIn wsL_law wsX0_wordings := goodIn_r _ [541, 24, 15, 21, 237, 254, 255, 227, 256, 396, 397, 398, 399, 400, 401, 402, 588, 589, 590, 591, 592, 593, 594, 595, 596, 597, 598, 599, 600, 601, 602, 603, 604, 605] (by decide +kernel) (by decide +kernel)
set_option maxRecDepth 20000 in
theorem gL_law_X0_wordings : GoodIn wsL_law (wsV RL 198 RX0 yX0_wordings wsX0_wordings) := goodIn_app (goodIn_of _ (by decide +kernel)) ggL_law_X0_wordings
set_option maxRecDepth 20000 in
theorem ggL_law_X1_wordings : GoodIn wsL_law wsX1_wordings := goodIn_r _ [545, 66, 170, 295, 43, 290, 255, 227, 256, 407, 408, 409, 5, 410, 67, 41, 606, 607, 608, 609, 610, 611, 612, 613, 614, 615, 616, 617, 618, 619, 620, 621] (by decide +kernel) (by decide +kernel)
set_option maxRecDepth 20000 in
theorem gL_law_X1_wordings : GoodIn wsL_law (wsV RL 201 RX1 yX1_wordings wsX1_wordings) := goodIn_app (goodIn_of _ (by decide +kernel)) ggL_law_X1_wordings
set_option maxRecDepth 20000 in
theorem ggL_law_X0_bestJoin : GoodIn wsL_law wsX0_bestJoin := goodIn_r _ [549, 17, 16, 533, 500, 501, 2, 502, 28, 233, 234, 235, 236, 24, 27, 14, 237, 238, 239, 240, 241, 21, 242, 243, 244, 245, 15, 93, 94, 95, 217, 218, 219, 220, 18, 246, 247, 248, 249, 213, 214, 215, 216, 250, 251, 252, 253, 30, 254, 255, 227, 256, 221, 222, 223, 224, 19, 225, 226, 228, 550, 551, 552, 553, 29, 588, 589, 590, 591, 592, 593, 594, 595, 596, 597, 598, 599, 600, 601, 602, 603, 604, 605] (by decide +kernel) (by decide +kernel)
set_option maxRecDepth 20000 in
theorem gL_law_X0_bestJoin : GoodIn wsL_law (wsV RL 202 RX0 yX0_bestJoin wsX0_bestJoin) := goodIn_app (goodIn_of _ (by decide +kernel)) ggL_law_X0_bestJoin
set_option maxRecDepth 20000 in
theorem ggL_law_X1_bestJoin : GoodIn wsL_law wsX1_bestJoin := goodIn_r _ [557, 66, 67, 42, 286, 287, 288, 5, 289, 45, 170, 290, 255, 227, 256, 291, 292, 293, 294, 295, 41, 43, 40, 112, 113, 114, 273, 274, 275, 276, 37, 296, 297, 298, 299, 277, 278, 279, 280, 38, 281, 226, 228, 606, 607, 608, 609, 610, 611, 612, 613, 614, 615, 616, 617, 618, 619, 620, 621] (by decide +kernel) (by decide +kernel)
set_option maxRecDepth 20000 in
theorem gL_law_X1_bestJoin : GoodIn wsL_law (wsV RL 205 RX1 yX1_bestJoin wsX1_bestJoin) := goodIn_app (goodIn_of _ (by decide +kernel)) ggL_law_X1_bestJoin
set_option maxRecDepth 20000 in
theorem ggL_law_X0_meanCost : GoodIn wsL_law wsX0_meanCost := goodIn_r _ [561, 25, 26, 588, 589, 590, 591, 592, 593, 594, 595, 596, 597, 598, 599, 600, 601, 602, 603, 604, 605] (by decide +kernel) (by decide +kernel)
set_option maxRecDepth 20000 in
theorem gL_law_X0_meanCost : GoodIn wsL_law (wsV RL 206 RX0 yX0_meanCost wsX0_meanCost) := goodIn_app (goodIn_of _ (by decide +kernel)) ggL_law_X0_meanCost
set_option maxRecDepth 20000 in
theorem ggL_law_X1_meanCost : GoodIn wsL_law wsX1_meanCost := goodIn_r _ [565, 66, 327, 328, 606, 607, 608, 609, 610, 611, 612, 613, 614, 615, 616, 617, 618, 619, 620, 621] (by decide +kernel) (by decide +kernel)
set_option maxRecDepth 20000 in
theorem gL_law_X1_meanCost : GoodIn wsL_law (wsV RL 210 RX1 yX1_meanCost wsX1_meanCost) := goodIn_app (goodIn_of _ (by decide +kernel)) ggL_law_X1_meanCost
set_option maxRecDepth 20000 in
theorem ggL_law_X0_digest : GoodIn wsL_law wsX0_digest := goodIn_ca (goodIn_r _ [569, 570, 571, 17, 18, 19, 20, 24, 25, 26, 209, 210, 211, 2, 212, 23, 21, 14, 213, 214, 215, 216, 217, 218, 219, 220, 221, 222, 223, 224, 225, 226, 227, 228, 319, 320, 321, 322, 533, 500, 501, 502, 28, 233, 234, 235, 236, 27, 237, 238, 239, 240, 241, 242, 243, 244, 245, 15, 93, 94, 95, 246, 247, 248, 249, 16, 250, 251, 252, 253, 30, 254, 255, 256, 572, 573, 574, 575, 576, 360, 361, 362, 87, 88, 89, 90, 91, 92, 577, 393, 394, 395, 396, 397, 398, 399, 400, 401, 402, 578, 579, 580, 581, 31, 32, 229, 230, 231, 232, 257, 258, 259, 260, 588, 589, 590, 591, 592, 593, 594, 595, 596, 597, 598, 599, 600, 601, 602, 603, 604, 605] (by decide +kernel) (by decide +kernel)) (goodIn_sub (fun _ h => List.mem_append_right _ h) (by decide +kernel))
set_option maxRecDepth 20000 in
theorem gL_law_X0_digest : GoodIn wsL_law (wsV RL 211 RX0 yX0_digest wsX0_digest) := goodIn_app (goodIn_of _ (by decide +kernel)) ggL_law_X0_digest
set_option maxRecDepth 20000 in
theorem ggL_law_X1_digest : GoodIn wsL_law wsX1_digest := goodIn_r _ [585, 66, 13, 67, 37, 38, 39, 170, 45, 327, 328, 586, 587, 40, 43, 44, 46, 47, 282, 283, 284, 5, 285, 286, 287, 288, 289, 290, 255, 227, 256, 291, 292, 293, 294, 295, 41, 112, 113, 114, 273, 274, 275, 276, 296, 297, 298, 299, 42, 300, 301, 302, 303, 304, 305, 306, 307, 269, 270, 271, 272, 277, 278, 279, 280, 281, 226, 228, 407, 408, 409, 410, 606, 607, 608, 609, 610, 611, 612, 613, 614, 615, 616, 617, 618, 619, 620, 621] (by decide +kernel) (by decide +kernel)
set_option maxRecDepth 20000 in
theorem gL_law_X1_digest : GoodIn wsL_law (wsV RL 215 RX1 yX1_digest wsX1_digest) := goodIn_app (goodIn_of _ (by decide +kernel)) ggL_law_X1_digest
