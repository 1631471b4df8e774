theorem pz_memr {big ws : List Cond} (ps : List Nat) (hp : ws = ps.filterMap (fun i => big[i]?)) : ∀ w ∈ ws, w ∈ big := by
  intro w hw
  rw [hp] at hw
  obtain ⟨i, -, hi⟩ := List.mem_filterMap.mp hw
  exact List.mem_of_getElem? hi
set_option maxRecDepth 20000 in
theorem pz_in__r1 : ∀ w ∈ wsL_law0_r1, w ∈ lw_tbl := pz_memr [17, 18, 9, 437, 438, 439, 440, 19, 20, 21, 22, 23, 24, 57, 44, 45, 46, 47, 25, 26, 27, 28, 29, 30] (by decide +kernel)
set_option maxRecDepth 20000 in
theorem pz_in__r2 : ∀ w ∈ wsL_law0_r2, w ∈ lw_tbl := pz_memr [31, 32, 33, 34, 35, 36, 37, 39, 0, 40, 41, 42, 43, 286, 287, 8, 288, 289, 290, 291, 292, 157, 158, 159] (by decide +kernel)
set_option maxRecDepth 20000 in
theorem pz_in__r3 : ∀ w ∈ wsL_law0_r3, w ∈ lw_tbl := pz_memr [68, 13, 160, 293, 294, 295, 296, 297, 14, 298, 299, 300, 301, 302, 228, 229, 230, 166, 167, 168, 169, 170, 171, 303] (by decide +kernel)
set_option maxRecDepth 20000 in
theorem pz_in__r4 : ∀ w ∈ wsL_law0_r4, w ∈ lw_tbl := pz_memr [304, 305, 306, 307, 308, 309, 147, 148, 149, 150, 151, 152, 143, 144, 145, 310, 311, 312, 313, 314, 315, 316, 317, 318] (by decide +kernel)
set_option maxRecDepth 20000 in
theorem pz_in__r5 : ∀ w ∈ wsL_law0_r5, w ∈ lw_tbl := pz_memr [319, 320, 321, 322, 323, 58, 59, 60, 61, 62, 63, 64, 65, 66, 67, 136, 137, 138, 140, 141, 142, 324, 325, 326] (by decide +kernel)
set_option maxRecDepth 20000 in
theorem pz_in__r6 : ∀ w ∈ wsL_law0_r6, w ∈ lw_tbl := pz_memr [327, 328, 329, 330, 331, 332, 333, 334, 335, 153, 154, 155, 156, 336, 337, 338, 234, 339, 340, 341, 342, 204, 15, 242] (by decide +kernel)
set_option maxRecDepth 20000 in
theorem pz_in__r7 : ∀ w ∈ wsL_law0_r7, w ∈ lw_tbl := pz_memr [16, 343, 344, 345, 348, 349, 350, 352, 353, 354, 258, 259, 260, 356, 357, 358, 359, 360, 361, 362, 363, 364, 365, 366] (by decide +kernel)
set_option maxRecDepth 20000 in
theorem pz_in__r8 : ∀ w ∈ wsL_law0_r8, w ∈ lw_tbl := pz_memr [367, 368, 369, 370, 371, 372, 373, 162, 163, 164, 165, 374, 375, 376, 377, 378, 379, 380, 381, 382, 383, 384, 176, 177] (by decide +kernel)
set_option maxRecDepth 20000 in
theorem pz_in__r9 : ∀ w ∈ wsL_law0_r9, w ∈ lw_tbl := pz_memr [178, 179, 180, 182, 2, 183, 385, 386, 387, 224, 225, 226, 227, 220, 222, 4, 223, 388, 389, 390, 391, 392, 393, 394] (by decide +kernel)
set_option maxRecDepth 20000 in
theorem pz_in__r10 : ∀ w ∈ wsL_law0_r10, w ∈ lw_tbl := pz_memr [395, 396, 398, 6, 399, 400, 401, 402, 403, 184, 185, 186, 187, 188, 190, 3, 191, 192, 193, 194, 261, 262, 263, 264] (by decide +kernel)
set_option maxRecDepth 20000 in
theorem pz_in__r11 : ∀ w ∈ wsL_law0_r11, w ∈ lw_tbl := pz_memr [265, 266, 267, 268, 269, 270, 271, 274, 276, 5, 277, 195, 196, 197, 198, 278, 279, 280, 281, 282, 283, 284, 199, 200] (by decide +kernel)
set_option maxRecDepth 20000 in
theorem pz_in__r12 : ∀ w ∈ wsL_law0_r12, w ∈ lw_tbl := pz_memr [201, 202, 172, 173, 174, 175, 231, 232, 233, 235, 236, 237, 238, 239, 241, 404, 405, 406, 407, 408, 409, 410, 411, 412] (by decide +kernel)
set_option maxRecDepth 20000 in
theorem pz_in__r13 : ∀ w ∈ wsL_law0_r13, w ∈ lw_tbl := pz_memr [413, 414, 415, 14, 416, 417, 418, 419, 420, 421, 422, 423, 424, 425, 426, 427, 428, 430, 432, 7, 433, 434, 435, 436] (by decide +kernel)
theorem pz_in_X00 : ∀ w ∈ wsX00, w ∈ lw_tbl := by decide +kernel
theorem wsL_law_in0 : ∀ w ∈ wsL_law0, w ∈ lw_tbl := List.forall_mem_append.mpr ⟨List.forall_mem_append.mpr ⟨List.forall_mem_append.mpr ⟨pz_in__r1, List.forall_mem_append.mpr ⟨pz_in__r2, List.forall_mem_append.mpr ⟨pz_in__r3, List.forall_mem_append.mpr ⟨pz_in__r4, List.forall_mem_append.mpr ⟨pz_in__r5, List.forall_mem_append.mpr ⟨pz_in__r6, List.forall_mem_append.mpr ⟨pz_in__r7, List.forall_mem_append.mpr ⟨pz_in__r8, List.forall_mem_append.mpr ⟨pz_in__r9, List.forall_mem_append.mpr ⟨pz_in__r10, List.forall_mem_append.mpr ⟨pz_in__r11, List.forall_mem_append.mpr ⟨pz_in__r12, pz_in__r13⟩⟩⟩⟩⟩⟩⟩⟩⟩⟩⟩⟩, pz_in_X00⟩, fun _ h => absurd h List.not_mem_nil⟩
theorem wsL_law_x0 : ∀ w ∈ (vx_atS RX0 157 "java/lang/IndexOutOfBoundsException" ["java/lang/RuntimeException", "java/lang/Exception"]).filter goodWord, w ∈ lw_tbl := by decide +kernel
theorem wsL_law_x1 : ∀ w ∈ (vx_atS RX0 79 "java/lang/IllegalArgumentException" ["java/lang/RuntimeException", "java/lang/Exception"]).filter goodWord, w ∈ lw_tbl := by decide +kernel
theorem wsL_law_x2 : ∀ w ∈ (vx_atS RX0 89 "java/lang/IllegalStateException" ["java/lang/RuntimeException", "java/lang/Exception"]).filter goodWord, w ∈ lw_tbl := by decide +kernel
theorem wsL_law_in : ∀ w ∈ wsL_law, w ∈ lw_tbl := fun w h => (List.mem_append.mp h).elim (fun h => (List.mem_append.mp h).elim (fun h => (List.mem_append.mp h).elim (fun h => wsL_law_in0 w h) (fun h => wsL_law_x0 w h)) (fun h => wsL_law_x1 w h)) (fun h => wsL_law_x2 w h)
theorem inlX0 : ∀ w ∈ wsX00, w ∈ wsL_law := fun _ h => List.mem_append_left _ (List.mem_append_left _ (List.mem_append_left _ (List.mem_append_left _ (List.mem_append_right _ h))))
theorem inX0 : ∀ w ∈ wsX00, w ∈ lw_tbl := fun w h => wsL_law_in w (inlX0 w h)
theorem inJ9 : ∀ w ∈ wsJ90, w ∈ lw_tbl := by decide +kernel
theorem inJ0 : ∀ w ∈ wsJ00, w ∈ lw_tbl := by decide +kernel
