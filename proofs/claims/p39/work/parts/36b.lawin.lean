/-- words of one list among another's, by their places -/
theorem mem_r {big ws : List Cond} (ps : List Nat) (hp : ws = ps.filterMap (fun i => big[i]?)) : ∀ w ∈ ws, w ∈ big := by
  intro w hw
  rw [hp] at hw
  obtain ⟨i, -, hi⟩ := List.mem_filterMap.mp hw
  exact List.mem_of_getElem? hi
set_option maxRecDepth 100000 in
theorem in_wsL_law0_r1 : ∀ w ∈ wsL_law0_r1, w ∈ lw_tbl := mem_r [25, 26, 15, 539, 536, 537, 23, 538, 535, 187, 188, 88, 495, 89, 497, 484, 486, 27, 28, 29, 30, 31, 32, 33] rfl
set_option maxRecDepth 100000 in
theorem in_wsL_law0_r2 : ∀ w ∈ wsL_law0_r2, w ∈ lw_tbl := mem_r [34, 35, 36, 37, 38, 39, 40, 41, 42, 43, 44, 45, 46, 47, 48, 49, 50, 530, 531, 14, 532, 533, 469, 16] rfl
set_option maxRecDepth 100000 in
theorem in_wsL_law0_r3 : ∀ w ∈ wsL_law0_r3, w ∈ lw_tbl := mem_r [471, 472, 473, 478, 480, 482, 488, 474, 490, 492, 494, 496, 394, 395, 396, 397, 390, 391, 392, 393, 398, 399, 400, 476] rfl
set_option maxRecDepth 100000 in
theorem in_wsL_law0_r4 : ∀ w ∈ wsL_law0_r4, w ∈ lw_tbl := mem_r [489, 491, 493, 479, 481, 483, 401, 402, 403, 404, 405, 20, 189, 21, 422, 423, 424, 425, 213, 215, 4, 216, 98, 22] rfl
set_option maxRecDepth 100000 in
theorem in_wsL_law0_r5 : ∀ w ∈ wsL_law0_r5, w ∈ lw_tbl := mem_r [226, 227, 228, 427, 428, 429, 430, 431, 432, 433, 434, 436, 437, 438, 439, 441, 442, 443, 444, 446, 447, 448, 449, 259] rfl
set_option maxRecDepth 100000 in
theorem in_wsL_law0_r6 : ∀ w ∈ wsL_law0_r6, w ∈ lw_tbl := mem_r [261, 5, 262, 450, 451, 452, 453, 454, 456, 13, 457, 459, 343, 344, 345, 346, 347, 348, 349, 350, 351, 352, 353, 354] rfl
set_option maxRecDepth 100000 in
theorem in_wsL_law0_r7 : ∀ w ∈ wsL_law0_r7, w ∈ lw_tbl := mem_r [355, 356, 357, 460, 461, 462, 463, 477, 464, 465, 466, 467, 468, 470, 360, 361, 362, 363, 364, 365, 366, 367, 372, 305] rfl
set_option maxRecDepth 100000 in
theorem in_wsL_law0_r8 : ∀ w ∈ wsL_law0_r8, w ∈ lw_tbl := mem_r [306, 368, 369, 370, 371, 521, 522, 523, 524, 170, 171, 172, 173, 174, 176, 1, 177, 178, 180, 2, 181, 182, 184, 3] rfl
set_option maxRecDepth 100000 in
theorem in_wsL_law0_r9 : ∀ w ∈ wsL_law0_r9, w ∈ lw_tbl := mem_r [185, 186, 311, 313, 11, 314, 283, 285, 6, 286, 291, 287, 289, 7, 290, 292, 294, 8, 295, 296, 298, 9, 299, 300] rfl
set_option maxRecDepth 100000 in
theorem in_wsL_law0_r10 : ∀ w ∈ wsL_law0_r10, w ∈ lw_tbl := mem_r [302, 10, 303, 304, 315, 317, 12, 318, 90, 91, 92, 93, 94, 95, 96, 97, 166, 167, 168, 169, 525, 526, 527, 528] rfl
set_option maxRecDepth 100000 in
theorem in_wsL_law0_r11 : ∀ w ∈ wsL_law0_r11, w ∈ lw_tbl := mem_r [205, 206, 207, 208, 239, 240, 241, 242, 243, 244, 245, 246, 247, 248, 249, 250, 218, 219, 220, 221, 222, 223, 224, 225] rfl
set_option maxRecDepth 100000 in
theorem in_wsL_law0_r12 : ∀ w ∈ wsL_law0_r12, w ∈ lw_tbl := mem_r [209, 210, 211, 212, 229, 230, 231, 232, 233, 234, 24, 235, 236, 237, 238, 251, 252, 253, 254, 255, 256, 257, 258, 264] rfl
set_option maxRecDepth 100000 in
theorem in_wsL_law0_r13 : ∀ w ∈ wsL_law0_r13, w ∈ lw_tbl := mem_r [265, 266, 267, 307, 308, 309, 310, 268, 279, 280, 281, 282, 324, 325, 326, 327, 269, 319, 320, 321, 322, 323, 270, 275] rfl
set_option maxRecDepth 100000 in
theorem in_wsL_law0_r14 : ∀ w ∈ wsL_law0_r14, w ∈ lw_tbl := mem_r [276, 277, 278, 271, 272, 273, 274, 328, 329, 330, 331, 332, 333, 334, 335, 485, 487, 387, 336, 337, 338, 339, 340, 341] rfl
set_option maxRecDepth 100000 in
theorem in_wsL_law0_r15 : ∀ w ∈ wsL_law0_r15, w ∈ lw_tbl := mem_r [342, 358, 359, 373, 374, 375, 376, 377, 378, 379, 380, 381, 382, 383, 384, 385, 386, 388, 389] rfl
set_option maxRecDepth 100000 in
theorem in_wsX00 : ∀ w ∈ wsX00, w ∈ lw_tbl := mem_r [51, 53, 55, 57, 59, 61, 63, 65, 67, 69, 71, 73, 75, 77, 79, 81, 83, 85] rfl
set_option maxRecDepth 100000 in
theorem in_wsX10 : ∀ w ∈ wsX10, w ∈ lw_tbl := mem_r [498, 500, 502, 504, 506, 508, 510, 512, 514, 516, 518] rfl
set_option maxRecDepth 100000 in
theorem in_x0 : ∀ w ∈ (vx_atS RX0 70 "java/lang/IllegalArgumentException" ["java/lang/RuntimeException", "java/lang/Exception"]).filter goodWord, w ∈ lw_tbl := mem_r [17, 120, 129, 133, 136, 138, 121, 122, 31, 32, 123, 128, 134, 154, 110, 155, 112, 156, 114, 124, 126, 116, 150, 151, 153, 116, 416, 417, 418, 144, 144, 145, 146, 147, 147, 148, 149, 150, 415, 406, 408, 131, 409, 410, 411, 412, 119, 118, 413] rfl
set_option maxRecDepth 100000 in
theorem in_x1 : ∀ w ∈ (vx_atS RX0 77 "java/lang/IllegalStateException" ["java/lang/RuntimeException", "java/lang/Exception"]).filter goodWord, w ∈ lw_tbl := mem_r [17, 120, 129, 133, 136, 138, 121, 122, 31, 32, 123, 128, 134, 154, 110, 155, 112, 156, 114, 124, 126, 116, 150, 151, 153, 116, 200, 201, 202, 144, 144, 145, 146, 147, 147, 148, 149, 150, 199, 190, 192, 132, 193, 194, 195, 196, 119, 118, 197] rfl
set_option maxRecDepth 100000 in
theorem in_x2 : ∀ w ∈ (vx_atS RX0 137 "java/lang/IndexOutOfBoundsException" ["java/lang/RuntimeException", "java/lang/Exception"]).filter goodWord, w ∈ lw_tbl := mem_r [17, 120, 129, 133, 136, 138, 121, 122, 31, 32, 123, 128, 134, 154, 110, 155, 112, 156, 114, 124, 126, 116, 150, 151, 153, 116, 141, 142, 143, 144, 144, 145, 146, 147, 147, 148, 149, 150, 140, 99, 107, 108, 109, 111, 113, 115, 119, 118, 117] rfl
theorem wsL_law_in0 : ∀ w ∈ wsL_law0, w ∈ lw_tbl := List.forall_mem_append.mpr ⟨List.forall_mem_append.mpr ⟨List.forall_mem_append.mpr ⟨List.forall_mem_append.mpr ⟨in_wsL_law0_r1, List.forall_mem_append.mpr ⟨in_wsL_law0_r2, List.forall_mem_append.mpr ⟨in_wsL_law0_r3, List.forall_mem_append.mpr ⟨in_wsL_law0_r4, List.forall_mem_append.mpr ⟨in_wsL_law0_r5, List.forall_mem_append.mpr ⟨in_wsL_law0_r6, List.forall_mem_append.mpr ⟨in_wsL_law0_r7, List.forall_mem_append.mpr ⟨in_wsL_law0_r8, List.forall_mem_append.mpr ⟨in_wsL_law0_r9, List.forall_mem_append.mpr ⟨in_wsL_law0_r10, List.forall_mem_append.mpr ⟨in_wsL_law0_r11, List.forall_mem_append.mpr ⟨in_wsL_law0_r12, List.forall_mem_append.mpr ⟨in_wsL_law0_r13, List.forall_mem_append.mpr ⟨in_wsL_law0_r14, in_wsL_law0_r15⟩⟩⟩⟩⟩⟩⟩⟩⟩⟩⟩⟩⟩⟩, in_wsX00⟩, in_wsX10⟩, fun _ h => absurd h List.not_mem_nil⟩
theorem wsL_law_in : ∀ w ∈ wsL_law, w ∈ lw_tbl := List.forall_mem_append.mpr ⟨List.forall_mem_append.mpr ⟨List.forall_mem_append.mpr ⟨wsL_law_in0, in_x0⟩, in_x1⟩, in_x2⟩
