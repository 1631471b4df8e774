theorem pz_memr {big ws : List Cond} (ps : List Nat) (hp : ws = ps.filterMap (fun i => big[i]?)) : ∀ w ∈ ws, w ∈ big := by
  intro w hw
  rw [hp] at hw
  obtain ⟨i, -, hi⟩ := List.mem_filterMap.mp hw
  exact List.mem_of_getElem? hi
set_option maxRecDepth 20000 in
theorem pz_in__r1 : ∀ w ∈ wsL_law0_r1, w ∈ lw_tbl := pz_memr [30, 31, 21, 523, 524, 22, 772, 32, 33, 34, 35, 36, 37, 70, 57, 58, 59, 60, 38, 39, 40, 41, 42, 43] (by decide +kernel)
set_option maxRecDepth 20000 in
theorem pz_in__r2 : ∀ w ∈ wsL_law0_r2, w ∈ lw_tbl := pz_memr [44, 45, 46, 47, 48, 49, 50, 52, 0, 53, 54, 55, 56, 525, 526, 527, 528, 553, 554, 555, 551, 550, 529, 531] (by decide +kernel)
set_option maxRecDepth 20000 in
theorem pz_in__r3 : ∀ w ∈ wsL_law0_r3, w ∈ lw_tbl := pz_memr [8, 532, 549, 533, 534, 535, 536, 537, 538, 539, 540, 541, 542, 543, 544, 545, 546, 547, 71, 72, 73, 74, 75, 580] (by decide +kernel)
set_option maxRecDepth 20000 in
theorem pz_in__r4 : ∀ w ∈ wsL_law0_r4, w ∈ lw_tbl := pz_memr [581, 582, 583, 548, 584, 76, 77, 20, 78, 79, 80, 81, 82, 83, 84, 85, 86, 90, 26, 87, 88, 89, 158, 159] (by decide +kernel)
set_option maxRecDepth 20000 in
theorem pz_in__r5 : ∀ w ∈ wsL_law0_r5, w ∈ lw_tbl := pz_memr [160, 162, 163, 164, 165, 166, 167, 169, 170, 171, 172, 173, 174, 585, 586, 587, 588, 589, 590, 591, 592, 593, 594, 595] (by decide +kernel)
set_option maxRecDepth 20000 in
theorem pz_in__r6 : ∀ w ∈ wsL_law0_r6, w ∈ lw_tbl := pz_memr [597, 9, 598, 599, 600, 601, 576, 577, 578, 579, 175, 176, 177, 178, 179, 180, 181, 602, 603, 604, 605, 606, 182, 183] (by decide +kernel)
set_option maxRecDepth 20000 in
theorem pz_in__r7 : ∀ w ∈ wsL_law0_r7, w ∈ lw_tbl := pz_memr [184, 185, 186, 187, 188, 189, 190, 191, 193, 194, 195, 196, 197, 27, 198, 607, 608, 609, 610, 611, 613, 10, 614, 615] (by decide +kernel)
set_option maxRecDepth 20000 in
theorem pz_in__r8 : ∀ w ∈ wsL_law0_r8, w ∈ lw_tbl := pz_memr [616, 617, 618, 199, 200, 201, 202, 203, 204, 205, 206, 207, 208, 209, 210, 211, 212, 213, 214, 215, 216, 217, 619, 620] (by decide +kernel)
set_option maxRecDepth 20000 in
theorem pz_in__r9 : ∀ w ∈ wsL_law0_r9, w ∈ lw_tbl := pz_memr [621, 622, 218, 219, 220, 221, 222, 223, 224, 623, 624, 625, 626, 225, 226, 227, 228, 229, 230, 231, 627, 628, 629, 630] (by decide +kernel)
set_option maxRecDepth 20000 in
theorem pz_in__r10 : ∀ w ∈ wsL_law0_r10, w ∈ lw_tbl := pz_memr [232, 233, 234, 235, 236, 237, 238, 239, 240, 241, 242, 243, 244, 631, 632, 633, 634, 635, 637, 11, 638, 245, 246, 247] (by decide +kernel)
set_option maxRecDepth 20000 in
theorem pz_in__r11 : ∀ w ∈ wsL_law0_r11, w ∈ lw_tbl := pz_memr [248, 249, 250, 251, 639, 640, 641, 642, 643, 645, 12, 646, 252, 253, 254, 255, 256, 257, 258, 647, 648, 649, 650, 651] (by decide +kernel)
set_option maxRecDepth 20000 in
theorem pz_in__r12 : ∀ w ∈ wsL_law0_r12, w ∈ lw_tbl := pz_memr [653, 13, 654, 259, 260, 261, 262, 263, 264, 265, 655, 656, 657, 658, 659, 661, 14, 662, 266, 267, 268, 269, 270, 271] (by decide +kernel)
set_option maxRecDepth 20000 in
theorem pz_in__r13 : ∀ w ∈ wsL_law0_r13, w ∈ lw_tbl := pz_memr [272, 273, 274, 278, 28, 298, 29, 275, 276, 277, 295, 296, 297, 314, 315, 316, 318, 319, 320, 663, 664, 665, 666, 667] (by decide +kernel)
set_option maxRecDepth 20000 in
theorem pz_in__r14 : ∀ w ∈ wsL_law0_r14, w ∈ lw_tbl := pz_memr [669, 15, 670, 321, 322, 323, 324, 325, 326, 327, 671, 672, 673, 674, 328, 329, 330, 331, 332, 333, 334, 675, 676, 677] (by decide +kernel)
set_option maxRecDepth 20000 in
theorem pz_in__r15 : ∀ w ∈ wsL_law0_r15, w ∈ lw_tbl := pz_memr [678, 679, 681, 16, 682, 335, 336, 337, 338, 339, 340, 341, 342, 344, 683, 684, 685, 686, 687, 346, 347, 348, 349, 350] (by decide +kernel)
set_option maxRecDepth 20000 in
theorem pz_in__r16 : ∀ w ∈ wsL_law0_r16, w ∈ lw_tbl := pz_memr [351, 352, 688, 689, 690, 691, 353, 354, 355, 356, 357, 358, 359, 692, 693, 694, 695, 696, 698, 17, 699, 360, 361, 362] (by decide +kernel)
set_option maxRecDepth 20000 in
theorem pz_in__r17 : ∀ w ∈ wsL_law0_r17, w ∈ lw_tbl := pz_memr [363, 364, 365, 366, 367, 368, 369, 700, 701, 702, 703, 370, 371, 372, 373, 374, 375, 376, 377, 378, 379, 704, 705, 706] (by decide +kernel)
set_option maxRecDepth 20000 in
theorem pz_in__r18 : ∀ w ∈ wsL_law0_r18, w ∈ lw_tbl := pz_memr [707, 380, 381, 382, 383, 384, 385, 386, 708, 709, 710, 711, 552, 387, 388, 389, 390, 391, 392, 393, 394, 396, 2, 397] (by decide +kernel)
set_option maxRecDepth 20000 in
theorem pz_in__r19 : ∀ w ∈ wsL_law0_r19, w ∈ lw_tbl := pz_memr [712, 713, 714, 715, 398, 399, 400, 401, 402, 403, 404, 405, 406, 407, 408, 409, 27, 410, 716, 717, 718, 719, 720, 722] (by decide +kernel)
set_option maxRecDepth 20000 in
theorem pz_in__r20 : ∀ w ∈ wsL_law0_r20, w ∈ lw_tbl := pz_memr [18, 723, 411, 412, 413, 414, 415, 416, 417, 724, 725, 726, 727, 418, 419, 420, 421, 422, 423, 424, 425, 426, 427, 429] (by decide +kernel)
set_option maxRecDepth 20000 in
theorem pz_in__r21 : ∀ w ∈ wsL_law0_r21, w ∈ lw_tbl := pz_memr [431, 3, 432, 433, 434, 435, 437, 439, 4, 440, 728, 729, 730, 731, 556, 441, 442, 443, 444, 445, 446, 447, 732, 733] (by decide +kernel)
set_option maxRecDepth 20000 in
theorem pz_in__r22 : ∀ w ∈ wsL_law0_r22, w ∈ lw_tbl := pz_memr [734, 735, 449, 450, 451, 452, 453, 454, 455, 736, 737, 738, 739, 456, 457, 458, 459, 460, 461, 462, 740, 741, 742, 743] (by decide +kernel)
set_option maxRecDepth 20000 in
theorem pz_in__r23 : ∀ w ∈ wsL_law0_r23, w ∈ lw_tbl := pz_memr [463, 464, 465, 466, 467, 468, 469, 471, 473, 5, 474, 475, 476, 477, 744, 745, 746, 747, 478, 479, 480, 481, 482, 483] (by decide +kernel)
set_option maxRecDepth 20000 in
theorem pz_in__r24 : ∀ w ∈ wsL_law0_r24, w ∈ lw_tbl := pz_memr [484, 487, 489, 6, 490, 748, 749, 750, 751, 491, 492, 493, 494, 495, 496, 497, 752, 753, 754, 755, 498, 499, 500, 501] (by decide +kernel)
set_option maxRecDepth 20000 in
theorem pz_in__r25 : ∀ w ∈ wsL_law0_r25, w ∈ lw_tbl := pz_memr [502, 503, 504, 505, 507, 7, 508, 756, 757, 758, 759, 760, 762, 19, 763, 509, 510, 511, 512, 513, 514, 515, 764, 765] (by decide +kernel)
set_option maxRecDepth 20000 in
theorem pz_in__r26 : ∀ w ∈ wsL_law0_r26, w ∈ lw_tbl := pz_memr [766, 767, 516, 517, 518, 519, 520, 521, 522, 768, 769, 770, 771] (by decide +kernel)
theorem pz_in_X00 : ∀ w ∈ wsX00, w ∈ lw_tbl := by decide +kernel
theorem pz_in_X10 : ∀ w ∈ wsX10, w ∈ lw_tbl := by decide +kernel
theorem wsL_law_in0 : ∀ w ∈ wsL_law0, w ∈ lw_tbl := List.forall_mem_append.mpr ⟨List.forall_mem_append.mpr ⟨List.forall_mem_append.mpr ⟨List.forall_mem_append.mpr ⟨pz_in__r1, List.forall_mem_append.mpr ⟨pz_in__r2, List.forall_mem_append.mpr ⟨pz_in__r3, List.forall_mem_append.mpr ⟨pz_in__r4, List.forall_mem_append.mpr ⟨pz_in__r5, List.forall_mem_append.mpr ⟨pz_in__r6, List.forall_mem_append.mpr ⟨pz_in__r7, List.forall_mem_append.mpr ⟨pz_in__r8, List.forall_mem_append.mpr ⟨pz_in__r9, List.forall_mem_append.mpr ⟨pz_in__r10, List.forall_mem_append.mpr ⟨pz_in__r11, List.forall_mem_append.mpr ⟨pz_in__r12, List.forall_mem_append.mpr ⟨pz_in__r13, List.forall_mem_append.mpr ⟨pz_in__r14, List.forall_mem_append.mpr ⟨pz_in__r15, List.forall_mem_append.mpr ⟨pz_in__r16, List.forall_mem_append.mpr ⟨pz_in__r17, List.forall_mem_append.mpr ⟨pz_in__r18, List.forall_mem_append.mpr ⟨pz_in__r19, List.forall_mem_append.mpr ⟨pz_in__r20, List.forall_mem_append.mpr ⟨pz_in__r21, List.forall_mem_append.mpr ⟨pz_in__r22, List.forall_mem_append.mpr ⟨pz_in__r23, List.forall_mem_append.mpr ⟨pz_in__r24, List.forall_mem_append.mpr ⟨pz_in__r25, pz_in__r26⟩⟩⟩⟩⟩⟩⟩⟩⟩⟩⟩⟩⟩⟩⟩⟩⟩⟩⟩⟩⟩⟩⟩⟩⟩, pz_in_X00⟩, pz_in_X10⟩, fun _ h => absurd h List.not_mem_nil⟩
theorem wsL_law_x0 : ∀ w ∈ (vx_atS RX0 157 "java/lang/IndexOutOfBoundsException" ["java/lang/RuntimeException", "java/lang/Exception"]).filter goodWord, w ∈ lw_tbl := by decide +kernel
theorem wsL_law_x1 : ∀ w ∈ (vx_atS RX0 79 "java/lang/IllegalArgumentException" ["java/lang/RuntimeException", "java/lang/Exception"]).filter goodWord, w ∈ lw_tbl := by decide +kernel
theorem wsL_law_x2 : ∀ w ∈ (vx_atS RX0 89 "java/lang/IllegalStateException" ["java/lang/RuntimeException", "java/lang/Exception"]).filter goodWord, w ∈ lw_tbl := by decide +kernel
theorem wsL_law_in : ∀ w ∈ wsL_law, w ∈ lw_tbl := fun w h => (List.mem_append.mp h).elim (fun h => (List.mem_append.mp h).elim (fun h => (List.mem_append.mp h).elim (fun h => wsL_law_in0 w h) (fun h => wsL_law_x0 w h)) (fun h => wsL_law_x1 w h)) (fun h => wsL_law_x2 w h)
theorem inlX0 : ∀ w ∈ wsX00, w ∈ wsL_law := fun _ h => List.mem_append_left _ (List.mem_append_left _ (List.mem_append_left _ (List.mem_append_left _ (List.mem_append_left _ (List.mem_append_right _ h)))))
theorem inX0 : ∀ w ∈ wsX00, w ∈ lw_tbl := fun w h => wsL_law_in w (inlX0 w h)
theorem inlX1 : ∀ w ∈ wsX10, w ∈ wsL_law := fun _ h => List.mem_append_left _ (List.mem_append_left _ (List.mem_append_left _ (List.mem_append_left _ (List.mem_append_right _ h))))
theorem inX1 : ∀ w ∈ wsX10, w ∈ lw_tbl := fun w h => wsL_law_in w (inlX1 w h)
theorem inJ9 : ∀ w ∈ wsJ90, w ∈ lw_tbl := by decide +kernel
theorem inJ0 : ∀ w ∈ wsJ00, w ∈ lw_tbl := by decide +kernel
set_option maxRecDepth 20000 in
theorem ggX0_init_X0_placeOfAnchor : GoodIn wsX0_init wsX0_placeOfAnchor := goodIn_r _ [12, 13, 14, 11, 15, 16, 17, 18, 19, 20, 21] (by decide +kernel) (by decide +kernel)
set_option maxRecDepth 20000 in
theorem gX0_init_X0_placeOfAnchor : GoodIn wsX0_init (va_wsS RX0 23 yX0_placeOfAnchor wsX0_placeOfAnchor) := goodIn_app (goodIn_of _ (by decide +kernel)) ggX0_init_X0_placeOfAnchor
set_option maxRecDepth 20000 in
theorem ggX0_init_X0_writeCharacter : GoodIn wsX0_init wsX0_writeCharacter := goodIn_r _ [25, 5, 26, 27, 11, 28, 29, 30, 31, 32] (by decide +kernel) (by decide +kernel)
set_option maxRecDepth 20000 in
theorem gX0_init_X0_writeCharacter : GoodIn wsX0_init (wsV RX0 27 RX0 yX0_writeCharacter wsX0_writeCharacter) := goodIn_app (goodIn_of _ (by decide +kernel)) ggX0_init_X0_writeCharacter
