set_option maxRecDepth 20000 in
theorem ggL_law_X0_init : GoodIn wsL_law wsX0_init := goodIn_r _ [9, 10, 11, 12, 13, 14, 15, 16, 17, 18, 19, 2, 20, 21, 22, 23, 24, 25, 26, 27, 28, 29, 30, 31, 32, 33, 34, 35, 36, 312, 313, 314, 315] (by decide +kernel) (by decide +kernel)
set_option maxRecDepth 20000 in
theorem gL_law_X0_init : GoodIn wsL_law (wsX0_init) := ggL_law_X0_init
set_option maxRecDepth 20000 in
theorem ggL_law_L_isBack : GoodIn wsL_law wsL_isBack := goodIn_ca (goodIn_ca (goodIn_ca (goodIn_r _ [40, 41, 42, 43, 2, 44, 45, 46, 47, 48, 49, 50, 51, 52, 53, 54, 55, 56, 57, 58, 59, 60, 61, 62, 63, 64, 65, 66, 67, 68, 69, 70, 71, 72, 73, 24, 25, 26, 74, 75, 76, 77, 78, 79, 80, 81, 82, 83, 84, 85, 86, 21, 22, 23, 87, 88, 89, 90, 91, 92, 93, 18, 19, 20, 27, 28, 29, 94, 95, 96, 97, 98, 99, 100, 101, 102, 103, 104, 105, 106, 107, 108, 109, 110, 111, 112, 113, 114, 115, 116, 117, 118, 119, 120, 121, 122, 123, 124, 125, 126, 127, 128, 129, 130, 131, 132, 133, 134, 39, 135, 136, 137, 138, 139, 140, 141, 142, 143, 144, 145, 146, 147, 148, 149, 150, 151, 152, 153, 154, 155, 156, 157, 158, 159, 160, 161, 162, 163, 164, 165, 166, 167, 168, 169, 170, 171, 172, 173, 174, 175, 176, 177, 178, 179, 180, 181, 182, 183, 184, 185, 186] (by decide +kernel) (by decide +kernel)) (goodIn_sub (fun _ h => List.mem_append_left _ (List.mem_append_left _ (List.mem_append_right _ h))) (by decide +kernel))) (goodIn_sub (fun _ h => List.mem_append_left _ (List.mem_append_right _ h)) (by decide +kernel))) (goodIn_sub (fun _ h => List.mem_append_right _ h) (by decide +kernel))
set_option maxRecDepth 20000 in
theorem gL_law_L_isBack : GoodIn wsL_law (va_wsS RL 119 yL_isBack wsL_isBack) := goodIn_app (goodIn_of _ (by decide +kernel)) ggL_law_L_isBack
set_option maxRecDepth 20000 in
theorem ggL_law_L_isNext : GoodIn wsL_law wsL_isNext := goodIn_ca (goodIn_r _ [189, 129, 130, 131, 2, 132, 45, 46, 47, 48, 49, 50, 41, 42, 43, 44, 51, 52, 53, 54, 55, 56, 57, 179, 180, 181, 182, 183, 184, 185, 186, 65, 66, 67, 68, 69, 70, 97, 98, 99, 100, 62, 63, 64, 74, 75, 76, 77, 71, 72, 73, 24, 25, 26, 78, 79, 80, 81, 82, 83, 84, 85, 86, 21, 22, 23, 58, 59, 60, 61, 125, 126, 127, 128, 94, 95, 96, 18, 19, 20, 27, 28, 29, 91, 92, 93, 190, 191, 192, 193, 194, 195, 196, 197, 17, 312, 313, 314, 315] (by decide +kernel) (by decide +kernel)) (goodIn_sub (fun _ h => List.mem_append_left _ (List.mem_append_left _ (List.mem_append_right _ h))) (by decide +kernel))
set_option maxRecDepth 20000 in
theorem gL_law_L_isNext : GoodIn wsL_law (va_wsS RL 123 yL_isNext wsL_isNext) := goodIn_app (goodIn_of _ (by decide +kernel)) ggL_law_L_isNext
set_option maxRecDepth 20000 in
theorem ggL_law_L_isKept : GoodIn wsL_law wsL_isKept := goodIn_ca (goodIn_r _ [200, 201, 202, 203, 2, 204, 45, 46, 47, 48, 49, 50, 62, 63, 64, 65, 66, 67, 68, 69, 70, 205, 206, 207, 208, 14, 34, 35, 36, 209, 210, 211, 212, 54, 55, 56, 57, 213, 214, 215, 216, 217, 218, 219, 220, 194, 195, 196, 197, 17, 190, 191, 192, 193, 221, 222, 223, 224, 312, 313, 314, 315] (by decide +kernel) (by decide +kernel)) (goodIn_sub (fun _ h => List.mem_append_left _ (List.mem_append_left _ (List.mem_append_right _ h))) (by decide +kernel))
set_option maxRecDepth 20000 in
theorem gL_law_L_isKept : GoodIn wsL_law (va_wsS RL 127 yL_isKept wsL_isKept) := goodIn_app (goodIn_of _ (by decide +kernel)) ggL_law_L_isKept
set_option maxRecDepth 20000 in
theorem ggL_law_X0_number : GoodIn wsL_law wsX0_number := goodIn_ca (goodIn_r _ [104, 105, 106, 2, 107, 48, 49, 108, 109, 110, 111, 112, 113, 114, 115, 116, 84, 85, 86, 24, 25, 26, 78, 79, 80, 81, 82, 83, 21, 22, 23] (by decide +kernel) (by decide +kernel)) (goodIn_sub (fun _ h => List.mem_append_left _ (List.mem_append_left _ (List.mem_append_right _ h))) (by decide +kernel))
set_option maxRecDepth 20000 in
theorem gL_law_X0_number : GoodIn wsL_law (wsV RL 44 RX0 yX0_number wsX0_number) := goodIn_app (goodIn_of _ (by decide +kernel)) ggL_law_X0_number
set_option maxRecDepth 20000 in
theorem ggL_law_X0_consulsOf : GoodIn wsL_law wsX0_consulsOf := goodIn_ca (goodIn_r _ [228, 16, 108, 109, 2, 110, 48, 49, 229, 230, 231, 232, 15, 233, 234, 235, 312, 313, 314, 315] (by decide +kernel) (by decide +kernel)) (goodIn_sub (fun _ h => List.mem_append_left _ (List.mem_append_left _ (List.mem_append_right _ h))) (by decide +kernel))
set_option maxRecDepth 20000 in
theorem gL_law_X0_consulsOf : GoodIn wsL_law (wsV RL 109 RX0 yX0_consulsOf wsX0_consulsOf) := goodIn_app (goodIn_of _ (by decide +kernel)) ggL_law_X0_consulsOf
set_option maxRecDepth 20000 in
theorem ggL_law_L_writes : GoodIn wsL_law wsL_writes := goodIn_ca (goodIn_ca (goodIn_ca (goodIn_r _ [238, 239, 136, 240, 241, 242, 2, 243, 141, 142, 143, 144, 15, 16, 108, 109, 110, 48, 49, 244, 245, 246, 229, 230, 231, 232, 233, 234, 235, 247, 248, 249, 250, 312, 313, 314, 315] (by decide +kernel) (by decide +kernel)) (goodIn_sub (fun _ h => List.mem_append_left _ (List.mem_append_right _ h)) (by decide +kernel))) (goodIn_sub (fun _ h => List.mem_append_right _ h) (by decide +kernel))) (goodIn_sub (fun _ h => List.mem_append_left _ (List.mem_append_left _ (List.mem_append_right _ h))) (by decide +kernel))
set_option maxRecDepth 20000 in
theorem gL_law_L_writes : GoodIn wsL_law (va_wsS RL 133 yL_writes wsL_writes) := goodIn_app (goodIn_of _ (by decide +kernel)) ggL_law_L_writes
set_option maxRecDepth 20000 in
theorem ggL_law_X0_afterConsuls : GoodIn wsL_law wsX0_afterConsuls := goodIn_ca (goodIn_r _ [254, 15, 108, 109, 2, 110, 48, 49, 312, 313, 314, 315] (by decide +kernel) (by decide +kernel)) (goodIn_sub (fun _ h => List.mem_append_left _ (List.mem_append_left _ (List.mem_append_right _ h))) (by decide +kernel))
set_option maxRecDepth 20000 in
theorem gL_law_X0_afterConsuls : GoodIn wsL_law (wsV RL 112 RX0 yX0_afterConsuls wsX0_afterConsuls) := goodIn_app (goodIn_of _ (by decide +kernel)) ggL_law_X0_afterConsuls
set_option maxRecDepth 20000 in
theorem ggL_law_L_strikes : GoodIn wsL_law wsL_strikes := goodIn_ca (goodIn_ca (goodIn_r _ [257, 136, 258, 259, 260, 2, 261, 143, 144, 15, 108, 109, 110, 48, 49, 229, 230, 231, 232, 233, 234, 235, 247, 248, 249, 250, 312, 313, 314, 315] (by decide +kernel) (by decide +kernel)) (goodIn_sub (fun _ h => List.mem_append_right _ h) (by decide +kernel))) (goodIn_sub (fun _ h => List.mem_append_left _ (List.mem_append_left _ (List.mem_append_right _ h))) (by decide +kernel))
set_option maxRecDepth 20000 in
theorem gL_law_L_strikes : GoodIn wsL_law (va_wsS RL 137 yL_strikes wsL_strikes) := goodIn_app (goodIn_of _ (by decide +kernel)) ggL_law_L_strikes
set_option maxRecDepth 20000 in
theorem ggL_law_X0_setCharacter : GoodIn wsL_law wsX0_setCharacter := goodIn_ca (goodIn_ca (goodIn_r _ [265, 48, 49, 141, 142, 34, 35, 2, 36, 205, 206, 207, 208, 14, 30, 31, 32, 33, 312, 313, 314, 315] (by decide +kernel) (by decide +kernel)) (goodIn_sub (fun _ h => List.mem_append_left _ (List.mem_append_left _ (List.mem_append_right _ h))) (by decide +kernel))) (goodIn_sub (fun _ h => List.mem_append_left _ (List.mem_append_right _ h)) (by decide +kernel))
set_option maxRecDepth 20000 in
theorem gL_law_X0_setCharacter : GoodIn wsL_law (wsV RL 141 RX0 yX0_setCharacter wsX0_setCharacter) := goodIn_app (goodIn_of _ (by decide +kernel)) ggL_law_X0_setCharacter
set_option maxRecDepth 20000 in
theorem ggL_law_X0_characterOf : GoodIn wsL_law wsX0_characterOf := goodIn_ca (goodIn_r _ [204, 45, 46, 2, 47, 48, 49, 50, 62, 63, 64, 65, 66, 67, 68, 69, 70, 205, 206, 207, 208, 14, 34, 35, 36, 312, 313, 314, 315] (by decide +kernel) (by decide +kernel)) (goodIn_sub (fun _ h => List.mem_append_left _ (List.mem_append_left _ (List.mem_append_right _ h))) (by decide +kernel))
set_option maxRecDepth 20000 in
theorem gL_law_X0_characterOf : GoodIn wsL_law (wsV RL 87 RX0 yX0_characterOf wsX0_characterOf) := goodIn_app (goodIn_of _ (by decide +kernel)) ggL_law_X0_characterOf
set_option maxRecDepth 20000 in
theorem ggL_law_X0_setMarketDay : GoodIn wsL_law wsX0_setMarketDay := goodIn_ca (goodIn_r _ [269, 17, 45, 46, 2, 47, 48, 49, 50, 312, 313, 314, 315] (by decide +kernel) (by decide +kernel)) (goodIn_sub (fun _ h => List.mem_append_left _ (List.mem_append_left _ (List.mem_append_right _ h))) (by decide +kernel))
set_option maxRecDepth 20000 in
theorem gL_law_X0_setMarketDay : GoodIn wsL_law (wsV RL 144 RX0 yX0_setMarketDay wsX0_setMarketDay) := goodIn_app (goodIn_of _ (by decide +kernel)) ggL_law_X0_setMarketDay
set_option maxRecDepth 20000 in
theorem ggL_law_X0_isMarket : GoodIn wsL_law wsX0_isMarket := goodIn_ca (goodIn_r _ [193, 45, 46, 2, 47, 48, 49, 50, 194, 195, 196, 197, 17, 312, 313, 314, 315] (by decide +kernel) (by decide +kernel)) (goodIn_sub (fun _ h => List.mem_append_left _ (List.mem_append_left _ (List.mem_append_right _ h))) (by decide +kernel))
set_option maxRecDepth 20000 in
theorem gL_law_X0_isMarket : GoodIn wsL_law (wsV RL 84 RX0 yX0_isMarket wsX0_isMarket) := goodIn_app (goodIn_of _ (by decide +kernel)) ggL_law_X0_isMarket
set_option maxRecDepth 20000 in
theorem ggL_law_L_ends : GoodIn wsL_law wsL_ends := goodIn_ca (goodIn_ca (goodIn_ca (goodIn_r _ [272, 136, 273, 274, 275, 2, 276, 141, 142, 143, 144, 277, 278, 45, 46, 47, 48, 49, 50, 65, 66, 67, 68, 69, 70, 154, 155, 156, 84, 85, 86, 78, 79, 80] (by decide +kernel) (by decide +kernel)) (goodIn_sub (fun _ h => List.mem_append_left _ (List.mem_append_right _ h)) (by decide +kernel))) (goodIn_sub (fun _ h => List.mem_append_right _ h) (by decide +kernel))) (goodIn_sub (fun _ h => List.mem_append_left _ (List.mem_append_left _ (List.mem_append_right _ h))) (by decide +kernel))
set_option maxRecDepth 20000 in
theorem gL_law_L_ends : GoodIn wsL_law (va_wsS RL 147 yL_ends wsL_ends) := goodIn_app (goodIn_of _ (by decide +kernel)) ggL_law_L_ends
set_option maxRecDepth 20000 in
theorem ggL_law_X0_lawNumber : GoodIn wsL_law wsX0_lawNumber := goodIn_ca (goodIn_r _ [178, 45, 46, 2, 47, 48, 49, 50, 65, 66, 67, 68, 69, 70] (by decide +kernel) (by decide +kernel)) (goodIn_sub (fun _ h => List.mem_append_left _ (List.mem_append_left _ (List.mem_append_right _ h))) (by decide +kernel))
set_option maxRecDepth 20000 in
theorem gL_law_X0_lawNumber : GoodIn wsL_law (wsV RL 75 RX0 yX0_lawNumber wsX0_lawNumber) := goodIn_app (goodIn_of _ (by decide +kernel)) ggL_law_X0_lawNumber
set_option maxRecDepth 20000 in
theorem ggL_law_X0_isDoubled : GoodIn wsL_law wsX0_isDoubled := goodIn_ca (goodIn_r _ [132, 45, 46, 2, 47, 48, 49, 50] (by decide +kernel) (by decide +kernel)) (goodIn_sub (fun _ h => List.mem_append_left _ (List.mem_append_left _ (List.mem_append_right _ h))) (by decide +kernel))
set_option maxRecDepth 20000 in
theorem gL_law_X0_isDoubled : GoodIn wsL_law (wsV RL 56 RX0 yX0_isDoubled wsX0_isDoubled) := goodIn_app (goodIn_of _ (by decide +kernel)) ggL_law_X0_isDoubled
set_option maxRecDepth 20000 in
theorem ggL_law_L_isYear : GoodIn wsL_law wsL_isYear := goodIn_ca (goodIn_ca (goodIn_r _ [281, 282, 283, 284, 2, 285, 17, 108, 109, 110, 48, 49, 78, 79, 80, 286, 287, 288, 289, 290, 291, 292, 165, 166, 167, 62, 63, 64, 65, 66, 67, 68, 69, 70, 293, 294, 295, 296, 172, 173, 174, 297, 298, 299, 300, 217, 218, 219, 220, 205, 206, 207, 208, 14, 34, 35, 36, 194, 195, 196, 197, 225, 226, 227, 228, 16, 229, 230, 231, 232, 15, 233, 234, 235, 251, 252, 253, 254, 301, 302, 303, 304, 141, 142, 305, 306, 307, 308, 309, 310, 311, 312, 313, 314, 315] (by decide +kernel) (by decide +kernel)) (goodIn_sub (fun _ h => List.mem_append_left _ (List.mem_append_left _ (List.mem_append_right _ h))) (by decide +kernel))) (goodIn_sub (fun _ h => List.mem_append_left _ (List.mem_append_right _ h)) (by decide +kernel))
set_option maxRecDepth 20000 in
theorem gL_law_L_isYear : GoodIn wsL_law (va_wsS RL 151 yL_isYear wsL_isYear) := goodIn_app (goodIn_of _ (by decide +kernel)) ggL_law_L_isYear
theorem dL_law_0 : decode cL_law 0 = .ok (.new 8, 3) := by decide +kernel
theorem dL_law_3 : decode cL_law 3 = .ok (.dup, 1) := by decide +kernel
theorem dL_law_4 : decode cL_law 4 = .ok (.invokespecial 118, 3) := by decide +kernel
theorem dL_law_7 : decode cL_law 7 = .ok (.astore_n 1, 1) := by decide +kernel
theorem dL_law_8 : decode cL_law 8 = .ok (.iconst 0, 1) := by decide +kernel
theorem dL_law_9 : decode cL_law 9 = .ok (.istore_n 2, 1) := by decide +kernel
theorem dL_law_10 : decode cL_law 10 = .ok (.aload_n 1, 1) := by decide +kernel
theorem dL_law_11 : decode cL_law 11 = .ok (.iconst 0, 1) := by decide +kernel
theorem dL_law_12 : decode cL_law 12 = .ok (.invokestatic 119, 3) := by decide +kernel
theorem dL_law_15 : decode cL_law 15 = .ok (.ifCond .eq 33, 3) := by decide +kernel
theorem dL_law_18 : decode cL_law 18 = .ok (.aload_n 1, 1) := by decide +kernel
theorem dL_law_19 : decode cL_law 19 = .ok (.iconst 0, 1) := by decide +kernel
theorem dL_law_20 : decode cL_law 20 = .ok (.invokestatic 123, 3) := by decide +kernel
theorem dL_law_23 : decode cL_law 23 = .ok (.ifCond .eq 25, 3) := by decide +kernel
theorem dL_law_26 : decode cL_law 26 = .ok (.aload_n 1, 1) := by decide +kernel
theorem dL_law_27 : decode cL_law 27 = .ok (.ldc 126, 2) := by decide +kernel
theorem dL_law_29 : decode cL_law 29 = .ok (.invokestatic 119, 3) := by decide +kernel
theorem dL_law_32 : decode cL_law 32 = .ok (.ifCond .eq 16, 3) := by decide +kernel
theorem dL_law_35 : decode cL_law 35 = .ok (.aload_n 1, 1) := by decide +kernel
theorem dL_law_36 : decode cL_law 36 = .ok (.ldc 126, 2) := by decide +kernel
theorem dL_law_38 : decode cL_law 38 = .ok (.invokestatic 127, 3) := by decide +kernel
theorem dL_law_41 : decode cL_law 41 = .ok (.ifCond .eq 7, 3) := by decide +kernel
theorem dL_law_44 : decode cL_law 44 = .ok (.iconst 1, 1) := by decide +kernel
theorem dL_law_45 : decode cL_law 45 = .ok (.goto 4, 3) := by decide +kernel
theorem dL_law_48 : decode cL_law 48 = .ok (.iconst 0, 1) := by decide +kernel
theorem dL_law_49 : decode cL_law 49 = .ok (.istore_n 3, 1) := by decide +kernel
theorem dL_law_50 : decode cL_law 50 = .ok (.aload_n 0, 1) := by decide +kernel
theorem dL_law_51 : decode cL_law 51 = .ok (.arraylength, 1) := by decide +kernel
theorem dL_law_52 : decode cL_law 52 = .ok (.bipush 20, 2) := by decide +kernel
theorem dL_law_54 : decode cL_law 54 = .ok (.if_icmp .ge 8, 3) := by decide +kernel
theorem dL_law_57 : decode cL_law 57 = .ok (.bipush 60, 2) := by decide +kernel
theorem dL_law_59 : decode cL_law 59 = .ok (.goto 20, 3) := by decide +kernel
theorem dL_law_62 : decode cL_law 62 = .ok (.aload_n 0, 1) := by decide +kernel
theorem dL_law_63 : decode cL_law 63 = .ok (.arraylength, 1) := by decide +kernel
theorem dL_law_64 : decode cL_law 64 = .ok (.bipush 60, 2) := by decide +kernel
theorem dL_law_66 : decode cL_law 66 = .ok (.if_icmp .ge 10, 3) := by decide +kernel
theorem dL_law_69 : decode cL_law 69 = .ok (.iconst 3, 1) := by decide +kernel
theorem dL_law_70 : decode cL_law 70 = .ok (.aload_n 0, 1) := by decide +kernel
theorem dL_law_71 : decode cL_law 71 = .ok (.arraylength, 1) := by decide +kernel
theorem dL_law_72 : decode cL_law 72 = .ok (.imul, 1) := by decide +kernel
theorem dL_law_73 : decode cL_law 73 = .ok (.goto 6, 3) := by decide +kernel
theorem dL_law_76 : decode cL_law 76 = .ok (.sipush 180, 3) := by decide +kernel
theorem dL_law_79 : decode cL_law 79 = .ok (.istore 4, 2) := by decide +kernel
theorem dL_law_81 : decode cL_law 81 = .ok (.iconst 0, 1) := by decide +kernel
theorem dL_law_82 : decode cL_law 82 = .ok (.istore 5, 2) := by decide +kernel
theorem dL_law_84 : decode cL_law 84 = .ok (.iload 5, 2) := by decide +kernel
theorem dL_law_86 : decode cL_law 86 = .ok (.iload 4, 2) := by decide +kernel
theorem dL_law_88 : decode cL_law 88 = .ok (.if_icmp .ge 727, 3) := by decide +kernel
theorem dL_law_91 : decode cL_law 91 = .ok (.iload_n 3, 1) := by decide +kernel
theorem dL_law_92 : decode cL_law 92 = .ok (.ifCond .eq 723, 3) := by decide +kernel
theorem dL_law_95 : decode cL_law 95 = .ok (.iload 5, 2) := by decide +kernel
theorem dL_law_97 : decode cL_law 97 = .ok (.aload_n 0, 1) := by decide +kernel
theorem dL_law_98 : decode cL_law 98 = .ok (.arraylength, 1) := by decide +kernel
theorem dL_law_99 : decode cL_law 99 = .ok (.if_icmp .ge 10, 3) := by decide +kernel
theorem dL_law_102 : decode cL_law 102 = .ok (.aload_n 0, 1) := by decide +kernel
theorem dL_law_103 : decode cL_law 103 = .ok (.iload 5, 2) := by decide +kernel
theorem dL_law_105 : decode cL_law 105 = .ok (.iaload, 1) := by decide +kernel
theorem dL_law_106 : decode cL_law 106 = .ok (.goto 21, 3) := by decide +kernel
theorem dL_law_109 : decode cL_law 109 = .ok (.ldc 130, 2) := by decide +kernel
theorem dL_law_111 : decode cL_law 111 = .ok (.iload 5, 2) := by decide +kernel
theorem dL_law_113 : decode cL_law 113 = .ok (.imul, 1) := by decide +kernel
theorem dL_law_114 : decode cL_law 114 = .ok (.iload 5, 2) := by decide +kernel
theorem dL_law_116 : decode cL_law 116 = .ok (.imul, 1) := by decide +kernel
theorem dL_law_117 : decode cL_law 117 = .ok (.sipush 14009, 3) := by decide +kernel
theorem dL_law_120 : decode cL_law 120 = .ok (.iload 5, 2) := by decide +kernel
theorem dL_law_122 : decode cL_law 122 = .ok (.imul, 1) := by decide +kernel
theorem dL_law_123 : decode cL_law 123 = .ok (.iadd, 1) := by decide +kernel
theorem dL_law_124 : decode cL_law 124 = .ok (.bipush 19, 2) := by decide +kernel
theorem dL_law_126 : decode cL_law 126 = .ok (.iadd, 1) := by decide +kernel
theorem dL_law_127 : decode cL_law 127 = .ok (.istore 6, 2) := by decide +kernel
theorem dL_law_129 : decode cL_law 129 = .ok (.iload 6, 2) := by decide +kernel
theorem dL_law_131 : decode cL_law 131 = .ok (.iconst 4, 1) := by decide +kernel
theorem dL_law_132 : decode cL_law 132 = .ok (.ishr, 1) := by decide +kernel
theorem dL_law_133 : decode cL_law 133 = .ok (.istore 7, 2) := by decide +kernel
theorem dL_law_135 : decode cL_law 135 = .ok (.iload 7, 2) := by decide +kernel
theorem dL_law_137 : decode cL_law 137 = .ok (.ldc 131, 2) := by decide +kernel
theorem dL_law_139 : decode cL_law 139 = .ok (.iand, 1) := by decide +kernel
theorem dL_law_140 : decode cL_law 140 = .ok (.ldc 126, 2) := by decide +kernel
theorem dL_law_142 : decode cL_law 142 = .ok (.irem, 1) := by decide +kernel
theorem dL_law_143 : decode cL_law 143 = .ok (.istore 8, 2) := by decide +kernel
theorem dL_law_145 : decode cL_law 145 = .ok (.iconst 1, 1) := by decide +kernel
theorem dL_law_146 : decode cL_law 146 = .ok (.iload 7, 2) := by decide +kernel
theorem dL_law_148 : decode cL_law 148 = .ok (.ldc 132, 2) := by decide +kernel
theorem dL_law_150 : decode cL_law 150 = .ok (.iand, 1) := by decide +kernel
theorem dL_law_151 : decode cL_law 151 = .ok (.iload 6, 2) := by decide +kernel
theorem dL_law_153 : decode cL_law 153 = .ok (.bipush 16, 2) := by decide +kernel
theorem dL_law_155 : decode cL_law 155 = .ok (.iand, 1) := by decide +kernel
theorem dL_law_156 : decode cL_law 156 = .ok (.ifCond .ne 9, 3) := by decide +kernel
theorem dL_law_159 : decode cL_law 159 = .ok (.sipush 3000, 3) := by decide +kernel
theorem dL_law_162 : decode cL_law 162 = .ok (.goto 5, 3) := by decide +kernel
theorem dL_law_165 : decode cL_law 165 = .ok (.bipush 40, 2) := by decide +kernel
theorem dL_law_167 : decode cL_law 167 = .ok (.irem, 1) := by decide +kernel
theorem dL_law_168 : decode cL_law 168 = .ok (.iadd, 1) := by decide +kernel
theorem dL_law_169 : decode cL_law 169 = .ok (.istore 9, 2) := by decide +kernel
theorem dL_law_171 : decode cL_law 171 = .ok (.iconst 1, 1) := by decide +kernel
theorem dL_law_172 : decode cL_law 172 = .ok (.iload 7, 2) := by decide +kernel
theorem dL_law_174 : decode cL_law 174 = .ok (.bipush 8, 2) := by decide +kernel
theorem dL_law_176 : decode cL_law 176 = .ok (.ishr, 1) := by decide +kernel
theorem dL_law_177 : decode cL_law 177 = .ok (.iconst 3, 1) := by decide +kernel
theorem dL_law_178 : decode cL_law 178 = .ok (.iand, 1) := by decide +kernel
theorem dL_law_179 : decode cL_law 179 = .ok (.iadd, 1) := by decide +kernel
theorem dL_law_180 : decode cL_law 180 = .ok (.istore 10, 2) := by decide +kernel
theorem dL_law_182 : decode cL_law 182 = .ok (.iconst 1, 1) := by decide +kernel
theorem dL_law_183 : decode cL_law 183 = .ok (.iload 7, 2) := by decide +kernel
theorem dL_law_185 : decode cL_law 185 = .ok (.bipush 10, 2) := by decide +kernel
theorem dL_law_187 : decode cL_law 187 = .ok (.ishr, 1) := by decide +kernel
theorem dL_law_188 : decode cL_law 188 = .ok (.iconst 3, 1) := by decide +kernel
theorem dL_law_189 : decode cL_law 189 = .ok (.iand, 1) := by decide +kernel
theorem dL_law_190 : decode cL_law 190 = .ok (.iadd, 1) := by decide +kernel
theorem dL_law_191 : decode cL_law 191 = .ok (.istore 11, 2) := by decide +kernel
theorem dL_law_193 : decode cL_law 193 = .ok (.iload 6, 2) := by decide +kernel
theorem dL_law_195 : decode cL_law 195 = .ok (.bipush 15, 2) := by decide +kernel
theorem dL_law_197 : decode cL_law 197 = .ok (.iand, 1) := by decide +kernel
theorem dL_law_198 : decode cL_law 198 = .ok (.istore 12, 2) := by decide +kernel
theorem dL_law_200 : decode cL_law 200 = .ok (.iload 12, 2) := by decide +kernel
theorem dL_law_202 : decode cL_law 202 = .ok (.iconst 5, 1) := by decide +kernel
theorem dL_law_203 : decode cL_law 203 = .ok (.if_icmp .ge 60, 3) := by decide +kernel
theorem dL_law_206 : decode cL_law 206 = .ok (.aload_n 1, 1) := by decide +kernel
theorem dL_law_207 : decode cL_law 207 = .ok (.iconst 4, 1) := by decide +kernel
theorem dL_law_208 : decode cL_law 208 = .ok (.iconst 1, 1) := by decide +kernel
theorem dL_law_209 : decode cL_law 209 = .ok (.iload 7, 2) := by decide +kernel
theorem dL_law_211 : decode cL_law 211 = .ok (.ldc 132, 2) := by decide +kernel
theorem dL_law_213 : decode cL_law 213 = .ok (.iand, 1) := by decide +kernel
theorem dL_law_214 : decode cL_law 214 = .ok (.sipush 750, 3) := by decide +kernel
theorem dL_law_217 : decode cL_law 217 = .ok (.irem, 1) := by decide +kernel
theorem dL_law_218 : decode cL_law 218 = .ok (.iadd, 1) := by decide +kernel
theorem dL_law_219 : decode cL_law 219 = .ok (.imul, 1) := by decide +kernel
theorem dL_law_220 : decode cL_law 220 = .ok (.iconst 2, 1) := by decide +kernel
theorem dL_law_221 : decode cL_law 221 = .ok (.bipush 22, 2) := by decide +kernel
theorem dL_law_223 : decode cL_law 223 = .ok (.iload 7, 2) := by decide +kernel
theorem dL_law_225 : decode cL_law 225 = .ok (.bipush 16, 2) := by decide +kernel
theorem dL_law_227 : decode cL_law 227 = .ok (.ishr, 1) := by decide +kernel
theorem dL_law_228 : decode cL_law 228 = .ok (.iconst 3, 1) := by decide +kernel
theorem dL_law_229 : decode cL_law 229 = .ok (.iand, 1) := by decide +kernel
theorem dL_law_230 : decode cL_law 230 = .ok (.iadd, 1) := by decide +kernel
theorem dL_law_231 : decode cL_law 231 = .ok (.invokevirtual 44, 3) := by decide +kernel
theorem dL_law_234 : decode cL_law 234 = .ok (.istore 13, 2) := by decide +kernel
theorem dL_law_236 : decode cL_law 236 = .ok (.aload_n 1, 1) := by decide +kernel
theorem dL_law_237 : decode cL_law 237 = .ok (.iload 13, 2) := by decide +kernel
theorem dL_law_239 : decode cL_law 239 = .ok (.invokestatic 119, 3) := by decide +kernel
theorem dL_law_242 : decode cL_law 242 = .ok (.ifCond .eq 16, 3) := by decide +kernel
theorem dL_law_245 : decode cL_law 245 = .ok (.aload_n 1, 1) := by decide +kernel
theorem dL_law_246 : decode cL_law 246 = .ok (.iload 13, 2) := by decide +kernel
theorem dL_law_248 : decode cL_law 248 = .ok (.invokestatic 123, 3) := by decide +kernel
theorem dL_law_251 : decode cL_law 251 = .ok (.ifCond .eq 7, 3) := by decide +kernel
theorem dL_law_254 : decode cL_law 254 = .ok (.iconst 1, 1) := by decide +kernel
theorem dL_law_255 : decode cL_law 255 = .ok (.goto 4, 3) := by decide +kernel
theorem dL_law_258 : decode cL_law 258 = .ok (.iconst 0, 1) := by decide +kernel
theorem dL_law_259 : decode cL_law 259 = .ok (.istore_n 3, 1) := by decide +kernel
theorem dL_law_260 : decode cL_law 260 = .ok (.goto 503, 3) := by decide +kernel
theorem dL_law_263 : decode cL_law 263 = .ok (.iload 12, 2) := by decide +kernel
theorem dL_law_265 : decode cL_law 265 = .ok (.bipush 8, 2) := by decide +kernel
theorem dL_law_267 : decode cL_law 267 = .ok (.if_icmp .ge 139, 3) := by decide +kernel
theorem dL_law_270 : decode cL_law 270 = .ok (.aload_n 1, 1) := by decide +kernel
theorem dL_law_271 : decode cL_law 271 = .ok (.iload 9, 2) := by decide +kernel
theorem dL_law_273 : decode cL_law 273 = .ok (.invokevirtual 109, 3) := by decide +kernel
theorem dL_law_276 : decode cL_law 276 = .ok (.ifCond .le 7, 3) := by decide +kernel
theorem dL_law_279 : decode cL_law 279 = .ok (.iconst 1, 1) := by decide +kernel
theorem dL_law_280 : decode cL_law 280 = .ok (.goto 4, 3) := by decide +kernel
theorem dL_law_283 : decode cL_law 283 = .ok (.iconst 0, 1) := by decide +kernel
theorem dL_law_284 : decode cL_law 284 = .ok (.istore 13, 2) := by decide +kernel
theorem dL_law_286 : decode cL_law 286 = .ok (.aload_n 1, 1) := by decide +kernel
theorem dL_law_287 : decode cL_law 287 = .ok (.iload 9, 2) := by decide +kernel
theorem dL_law_289 : decode cL_law 289 = .ok (.iload 10, 2) := by decide +kernel
theorem dL_law_291 : decode cL_law 291 = .ok (.iload 11, 2) := by decide +kernel
theorem dL_law_293 : decode cL_law 293 = .ok (.invokestatic 133, 3) := by decide +kernel
theorem dL_law_296 : decode cL_law 296 = .ok (.istore 14, 2) := by decide +kernel
theorem dL_law_298 : decode cL_law 298 = .ok (.iload_n 2, 1) := by decide +kernel
theorem dL_law_299 : decode cL_law 299 = .ok (.iload 14, 2) := by decide +kernel
theorem dL_law_301 : decode cL_law 301 = .ok (.ifCond .le 12, 3) := by decide +kernel
theorem dL_law_304 : decode cL_law 304 = .ok (.iload 13, 2) := by decide +kernel
theorem dL_law_306 : decode cL_law 306 = .ok (.ifCond .ne 7, 3) := by decide +kernel
theorem dL_law_309 : decode cL_law 309 = .ok (.iconst 1, 1) := by decide +kernel
theorem dL_law_310 : decode cL_law 310 = .ok (.goto 4, 3) := by decide +kernel
theorem dL_law_313 : decode cL_law 313 = .ok (.iconst 0, 1) := by decide +kernel
theorem dL_law_314 : decode cL_law 314 = .ok (.iadd, 1) := by decide +kernel
theorem dL_law_315 : decode cL_law 315 = .ok (.istore_n 2, 1) := by decide +kernel
theorem dL_law_316 : decode cL_law 316 = .ok (.iload 10, 2) := by decide +kernel
theorem dL_law_318 : decode cL_law 318 = .ok (.iload 11, 2) := by decide +kernel
theorem dL_law_320 : decode cL_law 320 = .ok (.if_icmp .ne 18, 3) := by decide +kernel
theorem dL_law_323 : decode cL_law 323 = .ok (.iload 14, 2) := by decide +kernel
theorem dL_law_325 : decode cL_law 325 = .ok (.bipush (-2), 2) := by decide +kernel
theorem dL_law_327 : decode cL_law 327 = .ok (.if_icmp .ne 7, 3) := by decide +kernel
theorem dL_law_330 : decode cL_law 330 = .ok (.iconst 1, 1) := by decide +kernel
theorem dL_law_331 : decode cL_law 331 = .ok (.goto 71, 3) := by decide +kernel
theorem dL_law_334 : decode cL_law 334 = .ok (.iconst 0, 1) := by decide +kernel
theorem dL_law_335 : decode cL_law 335 = .ok (.goto 67, 3) := by decide +kernel
theorem dL_law_338 : decode cL_law 338 = .ok (.iload 14, 2) := by decide +kernel
theorem dL_law_340 : decode cL_law 340 = .ok (.bipush (-3), 2) := by decide +kernel
theorem dL_law_342 : decode cL_law 342 = .ok (.if_icmp .ne 22, 3) := by decide +kernel
theorem dL_law_345 : decode cL_law 345 = .ok (.iload_n 2, 1) := by decide +kernel
theorem dL_law_346 : decode cL_law 346 = .ok (.bipush 60, 2) := by decide +kernel
theorem dL_law_348 : decode cL_law 348 = .ok (.if_icmp .ne 12, 3) := by decide +kernel
theorem dL_law_351 : decode cL_law 351 = .ok (.iload 13, 2) := by decide +kernel
theorem dL_law_353 : decode cL_law 353 = .ok (.ifCond .ne 7, 3) := by decide +kernel
theorem dL_law_356 : decode cL_law 356 = .ok (.iconst 1, 1) := by decide +kernel
theorem dL_law_357 : decode cL_law 357 = .ok (.goto 45, 3) := by decide +kernel
theorem dL_law_360 : decode cL_law 360 = .ok (.iconst 0, 1) := by decide +kernel
theorem dL_law_361 : decode cL_law 361 = .ok (.goto 41, 3) := by decide +kernel
theorem dL_law_364 : decode cL_law 364 = .ok (.iload 14, 2) := by decide +kernel
theorem dL_law_366 : decode cL_law 366 = .ok (.iload_n 2, 1) := by decide +kernel
theorem dL_law_367 : decode cL_law 367 = .ok (.if_icmp .ne 34, 3) := by decide +kernel
theorem dL_law_370 : decode cL_law 370 = .ok (.aload_n 1, 1) := by decide +kernel
theorem dL_law_371 : decode cL_law 371 = .ok (.iload 9, 2) := by decide +kernel
theorem dL_law_373 : decode cL_law 373 = .ok (.invokevirtual 109, 3) := by decide +kernel
theorem dL_law_376 : decode cL_law 376 = .ok (.sipush 1000, 3) := by decide +kernel
theorem dL_law_379 : decode cL_law 379 = .ok (.iload 10, 2) := by decide +kernel
theorem dL_law_381 : decode cL_law 381 = .ok (.imul, 1) := by decide +kernel
theorem dL_law_382 : decode cL_law 382 = .ok (.iload 11, 2) := by decide +kernel
theorem dL_law_384 : decode cL_law 384 = .ok (.iadd, 1) := by decide +kernel
theorem dL_law_385 : decode cL_law 385 = .ok (.if_icmp .ne 16, 3) := by decide +kernel
theorem dL_law_388 : decode cL_law 388 = .ok (.aload_n 1, 1) := by decide +kernel
theorem dL_law_389 : decode cL_law 389 = .ok (.iload 9, 2) := by decide +kernel
theorem dL_law_391 : decode cL_law 391 = .ok (.invokevirtual 112, 3) := by decide +kernel
theorem dL_law_394 : decode cL_law 394 = .ok (.ifCond .ne 7, 3) := by decide +kernel
theorem dL_law_397 : decode cL_law 397 = .ok (.iconst 1, 1) := by decide +kernel
theorem dL_law_398 : decode cL_law 398 = .ok (.goto 4, 3) := by decide +kernel
theorem dL_law_401 : decode cL_law 401 = .ok (.iconst 0, 1) := by decide +kernel
theorem dL_law_402 : decode cL_law 402 = .ok (.istore_n 3, 1) := by decide +kernel
theorem dL_law_403 : decode cL_law 403 = .ok (.goto 360, 3) := by decide +kernel
theorem dL_law_406 : decode cL_law 406 = .ok (.iload 12, 2) := by decide +kernel
theorem dL_law_408 : decode cL_law 408 = .ok (.bipush 8, 2) := by decide +kernel
theorem dL_law_410 : decode cL_law 410 = .ok (.if_icmp .ne 75, 3) := by decide +kernel
theorem dL_law_413 : decode cL_law 413 = .ok (.aload_n 1, 1) := by decide +kernel
theorem dL_law_414 : decode cL_law 414 = .ok (.iload 9, 2) := by decide +kernel
theorem dL_law_416 : decode cL_law 416 = .ok (.invokevirtual 109, 3) := by decide +kernel
theorem dL_law_419 : decode cL_law 419 = .ok (.ifCond .le 7, 3) := by decide +kernel
theorem dL_law_422 : decode cL_law 422 = .ok (.iconst 1, 1) := by decide +kernel
theorem dL_law_423 : decode cL_law 423 = .ok (.goto 4, 3) := by decide +kernel
theorem dL_law_426 : decode cL_law 426 = .ok (.iconst 0, 1) := by decide +kernel
theorem dL_law_427 : decode cL_law 427 = .ok (.istore 13, 2) := by decide +kernel
theorem dL_law_429 : decode cL_law 429 = .ok (.aload_n 1, 1) := by decide +kernel
theorem dL_law_430 : decode cL_law 430 = .ok (.iload 9, 2) := by decide +kernel
theorem dL_law_432 : decode cL_law 432 = .ok (.invokestatic 137, 3) := by decide +kernel
theorem dL_law_435 : decode cL_law 435 = .ok (.istore 14, 2) := by decide +kernel
theorem dL_law_437 : decode cL_law 437 = .ok (.iload_n 2, 1) := by decide +kernel
theorem dL_law_438 : decode cL_law 438 = .ok (.iload 13, 2) := by decide +kernel
theorem dL_law_440 : decode cL_law 440 = .ok (.ifCond .eq 7, 3) := by decide +kernel
theorem dL_law_443 : decode cL_law 443 = .ok (.iconst 1, 1) := by decide +kernel
theorem dL_law_444 : decode cL_law 444 = .ok (.goto 4, 3) := by decide +kernel
theorem dL_law_447 : decode cL_law 447 = .ok (.iconst 0, 1) := by decide +kernel
theorem dL_law_448 : decode cL_law 448 = .ok (.isub, 1) := by decide +kernel
theorem dL_law_449 : decode cL_law 449 = .ok (.istore_n 2, 1) := by decide +kernel
theorem dL_law_450 : decode cL_law 450 = .ok (.iload 14, 2) := by decide +kernel
theorem dL_law_452 : decode cL_law 452 = .ok (.iload 13, 2) := by decide +kernel
theorem dL_law_454 : decode cL_law 454 = .ok (.ifCond .eq 7, 3) := by decide +kernel
theorem dL_law_457 : decode cL_law 457 = .ok (.iload_n 2, 1) := by decide +kernel
theorem dL_law_458 : decode cL_law 458 = .ok (.goto 5, 3) := by decide +kernel
theorem dL_law_461 : decode cL_law 461 = .ok (.bipush (-3), 2) := by decide +kernel
theorem dL_law_463 : decode cL_law 463 = .ok (.if_icmp .ne 17, 3) := by decide +kernel
theorem dL_law_466 : decode cL_law 466 = .ok (.aload_n 1, 1) := by decide +kernel
theorem dL_law_467 : decode cL_law 467 = .ok (.iload 9, 2) := by decide +kernel
theorem dL_law_469 : decode cL_law 469 = .ok (.invokevirtual 109, 3) := by decide +kernel
theorem dL_law_472 : decode cL_law 472 = .ok (.iconst (-1), 1) := by decide +kernel
theorem dL_law_473 : decode cL_law 473 = .ok (.if_icmp .ne 7, 3) := by decide +kernel
theorem dL_law_476 : decode cL_law 476 = .ok (.iconst 1, 1) := by decide +kernel
theorem dL_law_477 : decode cL_law 477 = .ok (.goto 4, 3) := by decide +kernel
theorem dL_law_480 : decode cL_law 480 = .ok (.iconst 0, 1) := by decide +kernel
theorem dL_law_481 : decode cL_law 481 = .ok (.istore_n 3, 1) := by decide +kernel
theorem dL_law_482 : decode cL_law 482 = .ok (.goto 281, 3) := by decide +kernel
theorem dL_law_485 : decode cL_law 485 = .ok (.iload 12, 2) := by decide +kernel
theorem dL_law_487 : decode cL_law 487 = .ok (.bipush 9, 2) := by decide +kernel
theorem dL_law_489 : decode cL_law 489 = .ok (.if_icmp .ne 82, 3) := by decide +kernel
theorem dL_law_492 : decode cL_law 492 = .ok (.iconst 1, 1) := by decide +kernel
theorem dL_law_493 : decode cL_law 493 = .ok (.iload 7, 2) := by decide +kernel
theorem dL_law_495 : decode cL_law 495 = .ok (.sipush 4095, 3) := by decide +kernel
theorem dL_law_498 : decode cL_law 498 = .ok (.iand, 1) := by decide +kernel
theorem dL_law_499 : decode cL_law 499 = .ok (.sipush 365, 3) := by decide +kernel
theorem dL_law_502 : decode cL_law 502 = .ok (.irem, 1) := by decide +kernel
theorem dL_law_503 : decode cL_law 503 = .ok (.iadd, 1) := by decide +kernel
theorem dL_law_504 : decode cL_law 504 = .ok (.istore 13, 2) := by decide +kernel
theorem dL_law_506 : decode cL_law 506 = .ok (.iload 7, 2) := by decide +kernel
theorem dL_law_508 : decode cL_law 508 = .ok (.bipush 12, 2) := by decide +kernel
theorem dL_law_510 : decode cL_law 510 = .ok (.ishr, 1) := by decide +kernel
theorem dL_law_511 : decode cL_law 511 = .ok (.iconst 3, 1) := by decide +kernel
theorem dL_law_512 : decode cL_law 512 = .ok (.iand, 1) := by decide +kernel
theorem dL_law_513 : decode cL_law 513 = .ok (.istore 14, 2) := by decide +kernel
theorem dL_law_515 : decode cL_law 515 = .ok (.aload_n 1, 1) := by decide +kernel
theorem dL_law_516 : decode cL_law 516 = .ok (.iload 13, 2) := by decide +kernel
theorem dL_law_518 : decode cL_law 518 = .ok (.iload 14, 2) := by decide +kernel
theorem dL_law_520 : decode cL_law 520 = .ok (.invokevirtual 141, 3) := by decide +kernel
theorem dL_law_523 : decode cL_law 523 = .ok (.istore 15, 2) := by decide +kernel
theorem dL_law_525 : decode cL_law 525 = .ok (.iload 15, 2) := by decide +kernel
theorem dL_law_527 : decode cL_law 527 = .ok (.ifCond .lt 39, 3) := by decide +kernel
theorem dL_law_530 : decode cL_law 530 = .ok (.iload 15, 2) := by decide +kernel
theorem dL_law_532 : decode cL_law 532 = .ok (.iconst 3, 1) := by decide +kernel
theorem dL_law_533 : decode cL_law 533 = .ok (.if_icmp .gt 33, 3) := by decide +kernel
theorem dL_law_536 : decode cL_law 536 = .ok (.aload_n 1, 1) := by decide +kernel
theorem dL_law_537 : decode cL_law 537 = .ok (.iload 13, 2) := by decide +kernel
theorem dL_law_539 : decode cL_law 539 = .ok (.iconst 1, 1) := by decide +kernel
theorem dL_law_540 : decode cL_law 540 = .ok (.isub, 1) := by decide +kernel
theorem dL_law_541 : decode cL_law 541 = .ok (.invokevirtual 87, 3) := by decide +kernel
theorem dL_law_544 : decode cL_law 544 = .ok (.iload 14, 2) := by decide +kernel
theorem dL_law_546 : decode cL_law 546 = .ok (.if_icmp .ne 20, 3) := by decide +kernel
theorem dL_law_549 : decode cL_law 549 = .ok (.aload_n 1, 1) := by decide +kernel
theorem dL_law_550 : decode cL_law 550 = .ok (.iload 13, 2) := by decide +kernel
theorem dL_law_552 : decode cL_law 552 = .ok (.iload 14, 2) := by decide +kernel
theorem dL_law_554 : decode cL_law 554 = .ok (.invokevirtual 141, 3) := by decide +kernel
theorem dL_law_557 : decode cL_law 557 = .ok (.iload 14, 2) := by decide +kernel
theorem dL_law_559 : decode cL_law 559 = .ok (.if_icmp .ne 7, 3) := by decide +kernel
theorem dL_law_562 : decode cL_law 562 = .ok (.iconst 1, 1) := by decide +kernel
theorem dL_law_563 : decode cL_law 563 = .ok (.goto 4, 3) := by decide +kernel
theorem dL_law_566 : decode cL_law 566 = .ok (.iconst 0, 1) := by decide +kernel
theorem dL_law_567 : decode cL_law 567 = .ok (.istore_n 3, 1) := by decide +kernel
theorem dL_law_568 : decode cL_law 568 = .ok (.goto 195, 3) := by decide +kernel
theorem dL_law_571 : decode cL_law 571 = .ok (.iload 12, 2) := by decide +kernel
theorem dL_law_573 : decode cL_law 573 = .ok (.bipush 10, 2) := by decide +kernel
theorem dL_law_575 : decode cL_law 575 = .ok (.if_icmp .ne 66, 3) := by decide +kernel
theorem dL_law_578 : decode cL_law 578 = .ok (.aload_n 1, 1) := by decide +kernel
theorem dL_law_579 : decode cL_law 579 = .ok (.iload 8, 2) := by decide +kernel
theorem dL_law_581 : decode cL_law 581 = .ok (.invokevirtual 144, 3) := by decide +kernel
theorem dL_law_584 : decode cL_law 584 = .ok (.istore 13, 2) := by decide +kernel
theorem dL_law_586 : decode cL_law 586 = .ok (.iload 13, 2) := by decide +kernel
theorem dL_law_588 : decode cL_law 588 = .ok (.ifCond .lt 48, 3) := by decide +kernel
theorem dL_law_591 : decode cL_law 591 = .ok (.iload 13, 2) := by decide +kernel
theorem dL_law_593 : decode cL_law 593 = .ok (.bipush 8, 2) := by decide +kernel
theorem dL_law_595 : decode cL_law 595 = .ok (.if_icmp .ge 41, 3) := by decide +kernel
theorem dL_law_598 : decode cL_law 598 = .ok (.aload_n 1, 1) := by decide +kernel
theorem dL_law_599 : decode cL_law 599 = .ok (.iload 8, 2) := by decide +kernel
theorem dL_law_601 : decode cL_law 601 = .ok (.invokevirtual 84, 3) := by decide +kernel
theorem dL_law_604 : decode cL_law 604 = .ok (.ifCond .eq 32, 3) := by decide +kernel
theorem dL_law_607 : decode cL_law 607 = .ok (.aload_n 1, 1) := by decide +kernel
theorem dL_law_608 : decode cL_law 608 = .ok (.iload 8, 2) := by decide +kernel
theorem dL_law_610 : decode cL_law 610 = .ok (.iconst 1, 1) := by decide +kernel
theorem dL_law_611 : decode cL_law 611 = .ok (.iadd, 1) := by decide +kernel
theorem dL_law_612 : decode cL_law 612 = .ok (.invokevirtual 84, 3) := by decide +kernel
theorem dL_law_615 : decode cL_law 615 = .ok (.ifCond .ne 21, 3) := by decide +kernel
theorem dL_law_618 : decode cL_law 618 = .ok (.aload_n 1, 1) := by decide +kernel
theorem dL_law_619 : decode cL_law 619 = .ok (.iload 8, 2) := by decide +kernel
theorem dL_law_621 : decode cL_law 621 = .ok (.invokevirtual 144, 3) := by decide +kernel
theorem dL_law_624 : decode cL_law 624 = .ok (.iload 8, 2) := by decide +kernel
theorem dL_law_626 : decode cL_law 626 = .ok (.bipush 8, 2) := by decide +kernel
theorem dL_law_628 : decode cL_law 628 = .ok (.irem, 1) := by decide +kernel
theorem dL_law_629 : decode cL_law 629 = .ok (.if_icmp .ne 7, 3) := by decide +kernel
theorem dL_law_632 : decode cL_law 632 = .ok (.iconst 1, 1) := by decide +kernel
theorem dL_law_633 : decode cL_law 633 = .ok (.goto 4, 3) := by decide +kernel
theorem dL_law_636 : decode cL_law 636 = .ok (.iconst 0, 1) := by decide +kernel
theorem dL_law_637 : decode cL_law 637 = .ok (.istore_n 3, 1) := by decide +kernel
theorem dL_law_638 : decode cL_law 638 = .ok (.goto 125, 3) := by decide +kernel
theorem dL_law_641 : decode cL_law 641 = .ok (.iload 12, 2) := by decide +kernel
theorem dL_law_643 : decode cL_law 643 = .ok (.bipush 13, 2) := by decide +kernel
theorem dL_law_645 : decode cL_law 645 = .ok (.if_icmp .ge 118, 3) := by decide +kernel
theorem dL_law_648 : decode cL_law 648 = .ok (.iload 7, 2) := by decide +kernel
theorem dL_law_650 : decode cL_law 650 = .ok (.bipush 8, 2) := by decide +kernel
theorem dL_law_652 : decode cL_law 652 = .ok (.ishr, 1) := by decide +kernel
theorem dL_law_653 : decode cL_law 653 = .ok (.ldc 132, 2) := by decide +kernel
theorem dL_law_655 : decode cL_law 655 = .ok (.iand, 1) := by decide +kernel
theorem dL_law_656 : decode cL_law 656 = .ok (.istore 13, 2) := by decide +kernel
theorem dL_law_658 : decode cL_law 658 = .ok (.aload_n 1, 1) := by decide +kernel
theorem dL_law_659 : decode cL_law 659 = .ok (.iload 8, 2) := by decide +kernel
theorem dL_law_661 : decode cL_law 661 = .ok (.iload 13, 2) := by decide +kernel
theorem dL_law_663 : decode cL_law 663 = .ok (.invokestatic 147, 3) := by decide +kernel
theorem dL_law_666 : decode cL_law 666 = .ok (.istore 14, 2) := by decide +kernel
theorem dL_law_668 : decode cL_law 668 = .ok (.iload 14, 2) := by decide +kernel
theorem dL_law_670 : decode cL_law 670 = .ok (.bipush (-3), 2) := by decide +kernel
theorem dL_law_672 : decode cL_law 672 = .ok (.if_icmp .ne 29, 3) := by decide +kernel
theorem dL_law_675 : decode cL_law 675 = .ok (.aload_n 1, 1) := by decide +kernel
theorem dL_law_676 : decode cL_law 676 = .ok (.iload 8, 2) := by decide +kernel
theorem dL_law_678 : decode cL_law 678 = .ok (.invokevirtual 75, 3) := by decide +kernel
theorem dL_law_681 : decode cL_law 681 = .ok (.iload 13, 2) := by decide +kernel
theorem dL_law_683 : decode cL_law 683 = .ok (.iadd, 1) := by decide +kernel
theorem dL_law_684 : decode cL_law 684 = .ok (.aload_n 1, 1) := by decide +kernel
theorem dL_law_685 : decode cL_law 685 = .ok (.ldc 126, 2) := by decide +kernel
theorem dL_law_687 : decode cL_law 687 = .ok (.invokevirtual 75, 3) := by decide +kernel
theorem dL_law_690 : decode cL_law 690 = .ok (.if_icmp .le 7, 3) := by decide +kernel
theorem dL_law_693 : decode cL_law 693 = .ok (.iconst 1, 1) := by decide +kernel
theorem dL_law_694 : decode cL_law 694 = .ok (.goto 68, 3) := by decide +kernel
theorem dL_law_697 : decode cL_law 697 = .ok (.iconst 0, 1) := by decide +kernel
theorem dL_law_698 : decode cL_law 698 = .ok (.goto 64, 3) := by decide +kernel
theorem dL_law_701 : decode cL_law 701 = .ok (.aload_n 1, 1) := by decide +kernel
theorem dL_law_702 : decode cL_law 702 = .ok (.iload 14, 2) := by decide +kernel
theorem dL_law_704 : decode cL_law 704 = .ok (.invokevirtual 75, 3) := by decide +kernel
theorem dL_law_707 : decode cL_law 707 = .ok (.aload_n 1, 1) := by decide +kernel
theorem dL_law_708 : decode cL_law 708 = .ok (.iload 8, 2) := by decide +kernel
theorem dL_law_710 : decode cL_law 710 = .ok (.invokevirtual 75, 3) := by decide +kernel
theorem dL_law_713 : decode cL_law 713 = .ok (.iload 13, 2) := by decide +kernel
theorem dL_law_715 : decode cL_law 715 = .ok (.iadd, 1) := by decide +kernel
theorem dL_law_716 : decode cL_law 716 = .ok (.if_icmp .ne 45, 3) := by decide +kernel
theorem dL_law_719 : decode cL_law 719 = .ok (.aload_n 1, 1) := by decide +kernel
theorem dL_law_720 : decode cL_law 720 = .ok (.iload 14, 2) := by decide +kernel
theorem dL_law_722 : decode cL_law 722 = .ok (.invokevirtual 56, 3) := by decide +kernel
theorem dL_law_725 : decode cL_law 725 = .ok (.ifCond .ne 36, 3) := by decide +kernel
theorem dL_law_728 : decode cL_law 728 = .ok (.iload 14, 2) := by decide +kernel
theorem dL_law_730 : decode cL_law 730 = .ok (.iload 8, 2) := by decide +kernel
theorem dL_law_732 : decode cL_law 732 = .ok (.iload 13, 2) := by decide +kernel
theorem dL_law_734 : decode cL_law 734 = .ok (.iadd, 1) := by decide +kernel
theorem dL_law_735 : decode cL_law 735 = .ok (.if_icmp .lt 26, 3) := by decide +kernel
theorem dL_law_738 : decode cL_law 738 = .ok (.iload 14, 2) := by decide +kernel
theorem dL_law_740 : decode cL_law 740 = .ok (.iload 8, 2) := by decide +kernel
theorem dL_law_742 : decode cL_law 742 = .ok (.iload 13, 2) := by decide +kernel
theorem dL_law_744 : decode cL_law 744 = .ok (.iadd, 1) := by decide +kernel
theorem dL_law_745 : decode cL_law 745 = .ok (.iload 13, 2) := by decide +kernel
theorem dL_law_747 : decode cL_law 747 = .ok (.sipush 1460, 3) := by decide +kernel
theorem dL_law_750 : decode cL_law 750 = .ok (.idiv, 1) := by decide +kernel
theorem dL_law_751 : decode cL_law 751 = .ok (.iadd, 1) := by decide +kernel
theorem dL_law_752 : decode cL_law 752 = .ok (.iconst 2, 1) := by decide +kernel
theorem dL_law_753 : decode cL_law 753 = .ok (.iadd, 1) := by decide +kernel
theorem dL_law_754 : decode cL_law 754 = .ok (.if_icmp .gt 7, 3) := by decide +kernel
theorem dL_law_757 : decode cL_law 757 = .ok (.iconst 1, 1) := by decide +kernel
theorem dL_law_758 : decode cL_law 758 = .ok (.goto 4, 3) := by decide +kernel
theorem dL_law_761 : decode cL_law 761 = .ok (.iconst 0, 1) := by decide +kernel
theorem dL_law_762 : decode cL_law 762 = .ok (.istore_n 3, 1) := by decide +kernel
theorem dL_law_763 : decode cL_law 763 = .ok (.iload_n 3, 1) := by decide +kernel
theorem dL_law_764 : decode cL_law 764 = .ok (.ifCond .eq 43, 3) := by decide +kernel
theorem dL_law_767 : decode cL_law 767 = .ok (.aload_n 1, 1) := by decide +kernel
theorem dL_law_768 : decode cL_law 768 = .ok (.iload 8, 2) := by decide +kernel
theorem dL_law_770 : decode cL_law 770 = .ok (.invokestatic 119, 3) := by decide +kernel
theorem dL_law_773 : decode cL_law 773 = .ok (.ifCond .eq 34, 3) := by decide +kernel
theorem dL_law_776 : decode cL_law 776 = .ok (.aload_n 1, 1) := by decide +kernel
theorem dL_law_777 : decode cL_law 777 = .ok (.iload 8, 2) := by decide +kernel
theorem dL_law_779 : decode cL_law 779 = .ok (.invokestatic 123, 3) := by decide +kernel
theorem dL_law_782 : decode cL_law 782 = .ok (.ifCond .eq 25, 3) := by decide +kernel
theorem dL_law_785 : decode cL_law 785 = .ok (.aload_n 1, 1) := by decide +kernel
theorem dL_law_786 : decode cL_law 786 = .ok (.iload 8, 2) := by decide +kernel
theorem dL_law_788 : decode cL_law 788 = .ok (.invokestatic 127, 3) := by decide +kernel
theorem dL_law_791 : decode cL_law 791 = .ok (.ifCond .eq 16, 3) := by decide +kernel
theorem dL_law_794 : decode cL_law 794 = .ok (.aload_n 1, 1) := by decide +kernel
theorem dL_law_795 : decode cL_law 795 = .ok (.iload 9, 2) := by decide +kernel
theorem dL_law_797 : decode cL_law 797 = .ok (.invokestatic 151, 3) := by decide +kernel
theorem dL_law_800 : decode cL_law 800 = .ok (.ifCond .eq 7, 3) := by decide +kernel
theorem dL_law_803 : decode cL_law 803 = .ok (.iconst 1, 1) := by decide +kernel
theorem dL_law_804 : decode cL_law 804 = .ok (.goto 4, 3) := by decide +kernel
theorem dL_law_807 : decode cL_law 807 = .ok (.iconst 0, 1) := by decide +kernel
theorem dL_law_808 : decode cL_law 808 = .ok (.istore_n 3, 1) := by decide +kernel
theorem dL_law_809 : decode cL_law 809 = .ok (.iinc 5 1, 3) := by decide +kernel
theorem dL_law_812 : decode cL_law 812 = .ok (.goto (-728), 3) := by decide +kernel
theorem dL_law_815 : decode cL_law 815 = .ok (.iload_n 3, 1) := by decide +kernel
theorem dL_law_816 : decode cL_law 816 = .ok (.ireturn, 1) := by decide +kernel
