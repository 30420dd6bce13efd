/-- words of one list among another's, by their places -/
theorem mem_r {big ws : List Cond} (ps : List Nat) (hp : ws = ps.filterMap (fun i => big[i]?)) : ∀ w ∈ ws, w ∈ big := by
  intro w hw
  rw [hp] at hw
  obtain ⟨i, -, hi⟩ := List.mem_filterMap.mp hw
  exact List.mem_of_getElem? hi
set_option maxRecDepth 100000 in
theorem in_wsL_law0_r1 : ∀ w ∈ wsL_law0_r1, w ∈ lw_tbl := mem_r [46, 47, 35, 515, 516, 36, 800, 48, 49, 50, 51, 52, 53, 109, 54, 55, 56, 57, 58, 59, 60, 61, 110, 62] (by decide +kernel)
set_option maxRecDepth 100000 in
theorem in_wsL_law0_r2 : ∀ w ∈ wsL_law0_r2, w ∈ lw_tbl := mem_r [63, 64, 65, 66, 67, 68, 69, 70, 71, 517, 518, 519, 520, 523, 524, 525, 528, 529, 530, 532, 533, 534, 535, 536] (by decide +kernel)
set_option maxRecDepth 100000 in
theorem in_wsL_law0_r3 : ∀ w ∈ wsL_law0_r3, w ∈ lw_tbl := mem_r [328, 329, 34, 330, 331, 332, 333, 334, 335, 336, 337, 40, 353, 41, 574, 575, 576, 577, 521, 522, 578, 579, 580, 581] (by decide +kernel)
set_option maxRecDepth 100000 in
theorem in_wsL_law0_r4 : ∀ w ∈ wsL_law0_r4, w ∈ lw_tbl := mem_r [583, 17, 584, 570, 571, 572, 573, 369, 370, 371, 372, 373, 374, 375, 376, 248, 250, 12, 251, 252, 42, 151, 152, 153] (by decide +kernel)
set_option maxRecDepth 100000 in
theorem in_wsL_law0_r5 : ∀ w ∈ wsL_law0_r5, w ∈ lw_tbl := mem_r [585, 586, 587, 588, 589, 591, 18, 592, 593, 595, 19, 596, 597, 599, 20, 600, 601, 602, 603, 378, 379, 380, 381, 382] (by decide +kernel)
set_option maxRecDepth 100000 in
theorem in_wsL_law0_r6 : ∀ w ∈ wsL_law0_r6, w ∈ lw_tbl := mem_r [383, 384, 604, 605, 606, 607, 385, 386, 387, 388, 389, 390, 391, 608, 609, 610, 611, 393, 394, 395, 396, 397, 398, 399] (by decide +kernel)
set_option maxRecDepth 100000 in
theorem in_wsL_law0_r7 : ∀ w ∈ wsL_law0_r7, w ∈ lw_tbl := mem_r [612, 613, 614, 615, 401, 402, 403, 404, 405, 406, 407, 616, 617, 618, 619, 409, 410, 411, 412, 413, 414, 415, 620, 621] (by decide +kernel)
set_option maxRecDepth 100000 in
theorem in_wsL_law0_r8 : ∀ w ∈ wsL_law0_r8, w ∈ lw_tbl := mem_r [622, 623, 531, 417, 418, 419, 420, 421, 422, 423, 424, 426, 15, 427, 624, 625, 626, 627, 628, 630, 21, 631, 429, 430] (by decide +kernel)
set_option maxRecDepth 100000 in
theorem in_wsL_law0_r9 : ∀ w ∈ wsL_law0_r9, w ∈ lw_tbl := mem_r [431, 432, 433, 434, 435, 436, 438, 16, 439, 632, 633, 634, 635, 111, 112, 113, 114, 115, 116, 117, 118, 119, 121, 0] (by decide +kernel)
set_option maxRecDepth 100000 in
theorem in_wsL_law0_r10 : ∀ w ∈ wsL_law0_r10, w ∈ lw_tbl := mem_r [122, 123, 125, 1, 126, 127, 129, 2, 130, 131, 132, 43, 133, 134, 136, 3, 137, 138, 140, 4, 141, 146, 142, 144] (by decide +kernel)
set_option maxRecDepth 100000 in
theorem in_wsL_law0_r11 : ∀ w ∈ wsL_law0_r11, w ∈ lw_tbl := mem_r [5, 145, 147, 149, 6, 150, 154, 156, 7, 157, 158, 160, 8, 161, 162, 163, 164, 165, 167, 9, 168, 636, 637, 638] (by decide +kernel)
set_option maxRecDepth 100000 in
theorem in_wsL_law0_r12 : ∀ w ∈ wsL_law0_r12, w ∈ lw_tbl := mem_r [639, 679, 681, 680, 44, 640, 642, 22, 643, 644, 646, 23, 647, 648, 650, 24, 651, 652, 653, 655, 25, 656, 657, 659] (by decide +kernel)
set_option maxRecDepth 100000 in
theorem in_wsL_law0_r13 : ∀ w ∈ wsL_law0_r13, w ∈ lw_tbl := mem_r [26, 660, 666, 661, 663, 27, 664, 665, 667, 669, 28, 670, 671, 673, 29, 674, 675, 677, 30, 678, 441, 442, 443, 444] (by decide +kernel)
set_option maxRecDepth 100000 in
theorem in_wsL_law0_r14 : ∀ w ∈ wsL_law0_r14, w ∈ lw_tbl := mem_r [445, 446, 447, 448, 449, 450, 451, 210, 191, 192, 193, 682, 683, 684, 685, 526, 527, 686, 688, 31, 689, 169, 170, 171] (by decide +kernel)
set_option maxRecDepth 100000 in
theorem in_wsL_law0_r15 : ∀ w ∈ wsL_law0_r15, w ∈ lw_tbl := mem_r [172, 690, 691, 692, 693, 694, 696, 32, 697, 454, 455, 456, 457, 458, 459, 460, 698, 699, 700, 701, 461, 462, 463, 464] (by decide +kernel)
set_option maxRecDepth 100000 in
theorem in_wsL_law0_r16 : ∀ w ∈ wsL_law0_r16, w ∈ lw_tbl := mem_r [245, 246, 247, 702, 703, 704, 705, 465, 466, 467, 468, 469, 470, 471, 706, 707, 708, 709, 472, 473, 474, 475, 476, 477] (by decide +kernel)
set_option maxRecDepth 100000 in
theorem in_wsL_law0_r17 : ∀ w ∈ wsL_law0_r17, w ∈ lw_tbl := mem_r [478, 710, 711, 712, 713, 479, 480, 481, 482, 321, 322, 323, 216, 217, 45, 218, 219, 220, 221, 714, 715, 716, 717, 718] (by decide +kernel)
set_option maxRecDepth 100000 in
theorem in_wsL_law0_r18 : ∀ w ∈ wsL_law0_r18, w ∈ lw_tbl := mem_r [720, 33, 721, 173, 174, 175, 176, 722, 723, 724, 725, 177, 178, 179, 180, 726, 727, 728, 729, 181, 182, 183, 184, 730] (by decide +kernel)
set_option maxRecDepth 100000 in
theorem in_wsL_law0_r19 : ∀ w ∈ wsL_law0_r19, w ∈ lw_tbl := mem_r [731, 732, 733, 185, 186, 187, 188, 734, 735, 736, 737, 483, 484, 485, 486, 487, 488, 489, 738, 739, 740, 741, 490, 491] (by decide +kernel)
set_option maxRecDepth 100000 in
theorem in_wsL_law0_r20 : ∀ w ∈ wsL_law0_r20, w ∈ lw_tbl := mem_r [492, 493, 494, 495, 496, 742, 743, 744, 745, 189, 746, 747, 748, 749, 190, 750, 751, 752, 753, 497, 498, 499, 500, 754] (by decide +kernel)
set_option maxRecDepth 100000 in
theorem in_wsL_law0_r21 : ∀ w ∈ wsL_law0_r21, w ∈ lw_tbl := mem_r [755, 756, 757, 194, 195, 196, 197, 758, 759, 760, 761, 198, 199, 200, 201, 762, 763, 764, 765, 202, 203, 204, 205, 766] (by decide +kernel)
set_option maxRecDepth 100000 in
theorem in_wsL_law0_r22 : ∀ w ∈ wsL_law0_r22, w ∈ lw_tbl := mem_r [767, 768, 769, 501, 502, 503, 504, 505, 506, 507, 770, 771, 772, 773, 508, 509, 510, 511, 512, 513, 514, 774, 775, 776] (by decide +kernel)
set_option maxRecDepth 100000 in
theorem in_wsL_law0_r23 : ∀ w ∈ wsL_law0_r23, w ∈ lw_tbl := mem_r [777, 206, 207, 208, 209, 211, 778, 779, 780, 781, 212, 213, 214, 215, 782, 783, 784, 785, 222, 223, 224, 225, 226, 228] (by decide +kernel)
set_option maxRecDepth 100000 in
theorem in_wsL_law0_r24 : ∀ w ∈ wsL_law0_r24, w ∈ lw_tbl := mem_r [10, 229, 786, 787, 788, 789, 230, 231, 232, 233, 790, 791, 792, 793, 234, 235, 236, 237, 238, 239, 240, 242, 11, 243] (by decide +kernel)
set_option maxRecDepth 100000 in
theorem in_wsL_law0_r25 : ∀ w ∈ wsL_law0_r25, w ∈ lw_tbl := mem_r [244, 320, 324, 326, 14, 327, 794, 795, 796, 797, 798, 799] (by decide +kernel)
set_option maxRecDepth 100000 in
theorem in_wsX00 : ∀ w ∈ wsX00, w ∈ lw_tbl := mem_r [72, 74, 76, 78, 80, 82, 84, 86, 88, 90, 92, 94, 96, 98, 100, 102, 104, 106] (by decide +kernel)
set_option maxRecDepth 100000 in
theorem in_wsX10 : ∀ w ∈ wsX10, w ∈ lw_tbl := mem_r [537, 539, 541, 543, 545, 547, 549, 551, 553, 555, 557, 559, 561, 563, 565, 567] (by decide +kernel)
set_option maxRecDepth 100000 in
theorem in_x0 : ∀ w ∈ (vx_atS RX0 70 "java/lang/IllegalArgumentException" ["java/lang/RuntimeException", "java/lang/Exception"]).filter goodWord, w ∈ lw_tbl := mem_r [37, 274, 283, 287, 290, 292, 275, 276, 52, 53, 277, 282, 288, 308, 264, 309, 266, 310, 268, 278, 280, 270, 304, 305, 307, 270, 348, 349, 350, 298, 298, 299, 300, 301, 301, 302, 303, 304, 347, 338, 340, 285, 341, 342, 343, 344, 273, 272, 345] (by decide +kernel)
set_option maxRecDepth 100000 in
theorem in_x1 : ∀ w ∈ (vx_atS RX0 77 "java/lang/IllegalStateException" ["java/lang/RuntimeException", "java/lang/Exception"]).filter goodWord, w ∈ lw_tbl := mem_r [37, 274, 283, 287, 290, 292, 275, 276, 52, 53, 277, 282, 288, 308, 264, 309, 266, 310, 268, 278, 280, 270, 304, 305, 307, 270, 364, 365, 366, 298, 298, 299, 300, 301, 301, 302, 303, 304, 363, 354, 356, 286, 357, 358, 359, 360, 273, 272, 361] (by decide +kernel)
set_option maxRecDepth 100000 in
theorem in_x2 : ∀ w ∈ (vx_atS RX0 137 "java/lang/IndexOutOfBoundsException" ["java/lang/RuntimeException", "java/lang/Exception"]).filter goodWord, w ∈ lw_tbl := mem_r [37, 274, 283, 287, 290, 292, 275, 276, 52, 53, 277, 282, 288, 308, 264, 309, 266, 310, 268, 278, 280, 270, 304, 305, 307, 270, 295, 296, 297, 298, 298, 299, 300, 301, 301, 302, 303, 304, 294, 253, 261, 262, 263, 265, 267, 269, 273, 272, 271] (by decide +kernel)
theorem wsL_law_in0 : ∀ w ∈ wsL_law0, w ∈ lw_tbl := List.forall_mem_append.mpr ⟨List.forall_mem_append.mpr ⟨List.forall_mem_append.mpr ⟨List.forall_mem_append.mpr ⟨in_wsL_law0_r1, List.forall_mem_append.mpr ⟨in_wsL_law0_r2, List.forall_mem_append.mpr ⟨in_wsL_law0_r3, List.forall_mem_append.mpr ⟨in_wsL_law0_r4, List.forall_mem_append.mpr ⟨in_wsL_law0_r5, List.forall_mem_append.mpr ⟨in_wsL_law0_r6, List.forall_mem_append.mpr ⟨in_wsL_law0_r7, List.forall_mem_append.mpr ⟨in_wsL_law0_r8, List.forall_mem_append.mpr ⟨in_wsL_law0_r9, List.forall_mem_append.mpr ⟨in_wsL_law0_r10, List.forall_mem_append.mpr ⟨in_wsL_law0_r11, List.forall_mem_append.mpr ⟨in_wsL_law0_r12, List.forall_mem_append.mpr ⟨in_wsL_law0_r13, List.forall_mem_append.mpr ⟨in_wsL_law0_r14, List.forall_mem_append.mpr ⟨in_wsL_law0_r15, List.forall_mem_append.mpr ⟨in_wsL_law0_r16, List.forall_mem_append.mpr ⟨in_wsL_law0_r17, List.forall_mem_append.mpr ⟨in_wsL_law0_r18, List.forall_mem_append.mpr ⟨in_wsL_law0_r19, List.forall_mem_append.mpr ⟨in_wsL_law0_r20, List.forall_mem_append.mpr ⟨in_wsL_law0_r21, List.forall_mem_append.mpr ⟨in_wsL_law0_r22, List.forall_mem_append.mpr ⟨in_wsL_law0_r23, List.forall_mem_append.mpr ⟨in_wsL_law0_r24, in_wsL_law0_r25⟩⟩⟩⟩⟩⟩⟩⟩⟩⟩⟩⟩⟩⟩⟩⟩⟩⟩⟩⟩⟩⟩⟩⟩, in_wsX00⟩, in_wsX10⟩, fun _ h => absurd h List.not_mem_nil⟩
theorem wsL_law_in : ∀ w ∈ wsL_law, w ∈ lw_tbl := List.forall_mem_append.mpr ⟨List.forall_mem_append.mpr ⟨List.forall_mem_append.mpr ⟨wsL_law_in0, in_x0⟩, in_x1⟩, in_x2⟩
