theorem mem_r {big : List Cond} (ws : List Cond) (ps : List Nat) (hp : ws = ps.filterMap (fun i => big[i]?)) : ∀ w ∈ ws, w ∈ big := by
  intro w hw
  rw [hp] at hw
  obtain ⟨i, -, hi⟩ := List.mem_filterMap.mp hw
  exact List.mem_of_getElem? hi
set_option maxRecDepth 20000 in
theorem wsL_in_r1 : ∀ w ∈ wsL_law0_r1, w ∈ lw_tbl := mem_r _ [37, 38, 24, 474, 475, 31, 676, 39, 40, 41, 42, 43, 44, 45, 173, 47, 48, 25, 175, 89, 90, 28, 176, 106] (by decide +kernel)
set_option maxRecDepth 20000 in
theorem wsL_in_r2 : ∀ w ∈ wsL_law0_r2, w ∈ lw_tbl := mem_r _ [107, 29, 177, 119, 30, 49, 50, 51, 52, 69, 73, 75, 76, 53, 54, 26, 78, 55, 56, 57, 58, 59, 60, 61] (by decide +kernel)
set_option maxRecDepth 20000 in
theorem wsL_in_r3 : ∀ w ∈ wsL_law0_r3, w ∈ lw_tbl := mem_r _ [70, 71, 27, 72, 92, 93, 94, 95, 96, 109, 110, 111, 112, 114, 113, 120, 121, 122, 123, 124, 128, 130, 134, 136] (by decide +kernel)
set_option maxRecDepth 20000 in
theorem wsL_in_r4 : ∀ w ∈ wsL_law0_r4, w ∈ lw_tbl := mem_r _ [146, 126, 125, 476, 477, 478, 479, 482, 483, 484, 485, 486, 487, 568, 488, 489, 490, 491, 492, 494, 495, 496, 497, 498] (by decide +kernel)
set_option maxRecDepth 20000 in
theorem wsL_in_r5 : ∀ w ∈ wsL_law0_r5, w ∈ lw_tbl := mem_r _ [499, 500, 501, 504, 505, 506, 508, 189, 190, 191, 192, 174, 569, 570, 571, 572, 480, 481, 573, 574, 575, 193, 194, 195] (by decide +kernel)
set_option maxRecDepth 20000 in
theorem wsL_in_r6 : ∀ w ∈ wsL_law0_r6, w ∈ lw_tbl := mem_r _ [196, 197, 199, 0, 200, 201, 203, 1, 204, 205, 206, 207, 208, 132, 209, 211, 2, 212, 213, 214, 215, 216, 217, 218] (by decide +kernel)
set_option maxRecDepth 20000 in
theorem wsL_in_r7 : ∀ w ∈ wsL_law0_r7, w ∈ lw_tbl := mem_r _ [219, 576, 577, 578, 579, 580, 582, 13, 583, 584, 586, 14, 587, 220, 221, 222, 223, 588, 589, 590, 591, 224, 225, 226] (by decide +kernel)
set_option maxRecDepth 20000 in
theorem wsL_in_r8 : ∀ w ∈ wsL_law0_r8, w ∈ lw_tbl := mem_r _ [227, 592, 593, 594, 595, 502, 228, 229, 230, 231, 232, 234, 3, 235, 236, 237, 238, 239, 140, 138, 240, 241, 242, 243] (by decide +kernel)
set_option maxRecDepth 20000 in
theorem wsL_in_r9 : ∀ w ∈ wsL_law0_r9, w ∈ lw_tbl := mem_r _ [244, 246, 4, 247, 248, 250, 5, 251, 252, 253, 254, 255, 256, 257, 258, 259, 260, 261, 262, 263, 264, 265, 266, 267] (by decide +kernel)
set_option maxRecDepth 20000 in
theorem wsL_in_r10 : ∀ w ∈ wsL_law0_r10, w ∈ lw_tbl := mem_r _ [268, 269, 270, 271, 272, 273, 274, 275, 276, 277, 278, 280, 6, 281, 282, 283, 284, 285, 286, 287, 288, 289, 290, 291] (by decide +kernel)
set_option maxRecDepth 20000 in
theorem wsL_in_r11 : ∀ w ∈ wsL_law0_r11, w ∈ lw_tbl := mem_r _ [292, 293, 97, 294, 296, 7, 297, 298, 300, 8, 301, 302, 304, 9, 305, 306, 307, 308, 309, 310, 311, 312, 313, 314] (by decide +kernel)
set_option maxRecDepth 20000 in
theorem wsL_in_r12 : ∀ w ∈ wsL_law0_r12, w ∈ lw_tbl := mem_r _ [315, 316, 317, 318, 319, 320, 321, 323, 10, 324, 325, 326, 327, 328, 329, 330, 331, 332, 596, 597, 598, 599, 600, 602] (by decide +kernel)
set_option maxRecDepth 20000 in
theorem wsL_in_r13 : ∀ w ∈ wsL_law0_r13, w ∈ lw_tbl := mem_r _ [15, 603, 604, 606, 16, 607, 493, 608, 610, 17, 611, 612, 614, 18, 615, 616, 618, 19, 619, 503, 620, 622, 20, 623] (by decide +kernel)
set_option maxRecDepth 20000 in
theorem wsL_in_r14 : ∀ w ∈ wsL_law0_r14, w ∈ lw_tbl := mem_r _ [624, 626, 21, 627, 507, 333, 334, 335, 336, 337, 338, 339, 340, 628, 629, 630, 631, 341, 342, 343, 344, 345, 347, 11] (by decide +kernel)
set_option maxRecDepth 20000 in
theorem wsL_in_r15 : ∀ w ∈ wsL_law0_r15, w ∈ lw_tbl := mem_r _ [348, 353, 354, 32, 355, 349, 350, 351, 352, 632, 633, 634, 635, 636, 638, 22, 639, 356, 357, 358, 359, 640, 641, 642] (by decide +kernel)
set_option maxRecDepth 20000 in
theorem wsL_in_r16 : ∀ w ∈ wsL_law0_r16, w ∈ lw_tbl := mem_r _ [643, 360, 361, 362, 363, 364, 365, 366, 367, 143, 644, 645, 646, 647, 368, 369, 370, 371, 648, 649, 650, 651, 372, 373] (by decide +kernel)
set_option maxRecDepth 20000 in
theorem wsL_in_r17 : ∀ w ∈ wsL_law0_r17, w ∈ lw_tbl := mem_r _ [374, 375, 376, 377, 378, 379, 652, 653, 654, 655, 380, 381, 382, 383, 656, 657, 658, 659, 384, 385, 386, 387, 660, 661] (by decide +kernel)
set_option maxRecDepth 20000 in
theorem wsL_in_r18 : ∀ w ∈ wsL_law0_r18, w ∈ lw_tbl := mem_r _ [662, 663, 400, 401, 23, 402, 403, 404, 405, 406, 407, 408, 36, 664, 665, 666, 667, 388, 389, 390, 391, 668, 669, 670] (by decide +kernel)
set_option maxRecDepth 20000 in
theorem wsL_in_r19 : ∀ w ∈ wsL_law0_r19, w ∈ lw_tbl := mem_r _ [671, 392, 393, 394, 395, 396, 397, 398, 399, 672, 673, 674, 675] (by decide +kernel)
set_option maxRecDepth 20000 in
theorem wsL_in_X0 : ∀ w ∈ wsX00, w ∈ lw_tbl := mem_r _ [116] (by decide +kernel)
set_option maxRecDepth 20000 in
theorem wsL_in_X1 : ∀ w ∈ wsX10, w ∈ lw_tbl := mem_r _ [99, 101, 103] (by decide +kernel)
set_option maxRecDepth 20000 in
theorem wsL_in_X2 : ∀ w ∈ wsX20, w ∈ lw_tbl := mem_r _ [62, 64, 66] (by decide +kernel)
set_option maxRecDepth 20000 in
theorem wsL_in_X3 : ∀ w ∈ wsX30, w ∈ lw_tbl := mem_r _ [80, 82, 84, 86] (by decide +kernel)
set_option maxRecDepth 20000 in
theorem wsL_in_X4 : ∀ w ∈ wsX40, w ∈ lw_tbl := mem_r _ [148, 150, 152, 154, 156, 158, 160, 162, 164, 166, 168, 170] (by decide +kernel)
set_option maxRecDepth 20000 in
theorem wsL_in_X5 : ∀ w ∈ wsX50, w ∈ lw_tbl := mem_r _ [178, 180, 182, 184, 186] (by decide +kernel)
set_option maxRecDepth 20000 in
theorem wsL_in_X6 : ∀ w ∈ wsX60, w ∈ lw_tbl := mem_r _ [509, 511, 513, 515, 517, 519, 521, 523, 525, 527, 529, 531, 533, 535, 537, 539, 541, 543, 545, 547, 549, 551, 553, 555, 557, 559, 561, 563, 565] (by decide +kernel)
theorem wsL_law_in0 : ∀ w ∈ wsL_law0, w ∈ lw_tbl := by
  unfold wsL_law0
  exact List.forall_mem_append.mpr ⟨List.forall_mem_append.mpr ⟨List.forall_mem_append.mpr ⟨List.forall_mem_append.mpr ⟨List.forall_mem_append.mpr ⟨List.forall_mem_append.mpr ⟨List.forall_mem_append.mpr ⟨List.forall_mem_append.mpr ⟨List.forall_mem_append.mpr ⟨wsL_in_r1, List.forall_mem_append.mpr ⟨wsL_in_r2, List.forall_mem_append.mpr ⟨wsL_in_r3, List.forall_mem_append.mpr ⟨wsL_in_r4, List.forall_mem_append.mpr ⟨wsL_in_r5, List.forall_mem_append.mpr ⟨wsL_in_r6, List.forall_mem_append.mpr ⟨wsL_in_r7, List.forall_mem_append.mpr ⟨wsL_in_r8, List.forall_mem_append.mpr ⟨wsL_in_r9, List.forall_mem_append.mpr ⟨wsL_in_r10, List.forall_mem_append.mpr ⟨wsL_in_r11, List.forall_mem_append.mpr ⟨wsL_in_r12, List.forall_mem_append.mpr ⟨wsL_in_r13, List.forall_mem_append.mpr ⟨wsL_in_r14, List.forall_mem_append.mpr ⟨wsL_in_r15, List.forall_mem_append.mpr ⟨wsL_in_r16, List.forall_mem_append.mpr ⟨wsL_in_r17, List.forall_mem_append.mpr ⟨wsL_in_r18, wsL_in_r19⟩⟩⟩⟩⟩⟩⟩⟩⟩⟩⟩⟩⟩⟩⟩⟩⟩⟩, wsL_in_X5⟩, wsL_in_X6⟩, wsL_in_X3⟩, wsL_in_X1⟩, wsL_in_X0⟩, wsL_in_X4⟩, wsL_in_X2⟩, fun _ h => absurd h List.not_mem_nil⟩
