set_option maxRecDepth 20000 in
theorem ggL_law_X0_init : GoodIn wsL_law wsX0_init := goodIn_r _ [9, 10, 11, 12, 13, 14, 15, 16, 17, 18, 19, 2, 20, 21, 22, 23, 24, 25, 26, 27, 28, 29, 30, 31, 32, 33, 34, 35, 36, 613, 614, 615, 616] (by decide +kernel) (by decide +kernel)
set_option maxRecDepth 20000 in
theorem gL_law_X0_init : GoodIn wsL_law (wsX0_init) := ggL_law_X0_init
set_option maxRecDepth 20000 in
theorem ggL_law_X1_init : GoodIn wsL_law wsX1_init := goodIn_r _ [39, 40, 11, 12, 13, 41, 42, 43, 44, 45, 46, 47, 48, 5, 49, 50, 51, 52, 53, 54, 55, 56, 57, 58, 59, 60, 61, 62, 63, 64, 65, 617, 618, 619, 620, 621, 622, 623, 624, 625] (by decide +kernel) (by decide +kernel)
set_option maxRecDepth 20000 in
theorem gL_law_X1_init : GoodIn wsL_law (wsX1_init) := ggL_law_X1_init
set_option maxRecDepth 20000 in
theorem ggL_law_X0_days : GoodIn wsL_law wsX0_days := goodIn_r _ [69, 70] (by decide +kernel) (by decide +kernel)
set_option maxRecDepth 20000 in
theorem gL_law_X0_days : GoodIn wsL_law (wsV RL 120 RX0 yX0_days wsX0_days) := goodIn_app (goodIn_of _ (by decide +kernel)) ggL_law_X0_days
set_option maxRecDepth 20000 in
theorem ggL_law_X1_days : GoodIn wsL_law wsX1_days := goodIn_r _ [74, 75, 76, 617, 618, 619, 620, 621, 622, 623, 624, 625] (by decide +kernel) (by decide +kernel)
set_option maxRecDepth 20000 in
theorem gL_law_X1_days : GoodIn wsL_law (wsV RL 124 RX1 yX1_days wsX1_days) := goodIn_app (goodIn_of _ (by decide +kernel)) ggL_law_X1_days
set_option maxRecDepth 20000 in
theorem ggL_law_L_number : GoodIn wsL_law wsL_number := goodIn_ca (goodIn_r _ [80, 81, 82, 83, 84, 2, 85, 86, 87, 88, 89, 90, 91, 92, 93, 94, 95, 96, 97, 98, 99, 100, 101, 102, 24, 25, 26, 103, 104, 105, 106, 107, 108, 21, 22, 23] (by decide +kernel) (by decide +kernel)) (goodIn_sub (fun _ h => List.mem_append_left _ (List.mem_append_left _ (List.mem_append_right _ h))) (by decide +kernel))
set_option maxRecDepth 20000 in
theorem gL_law_L_number : GoodIn wsL_law (va_wsS RL 125 yL_number wsL_number) := goodIn_app (goodIn_of _ (by decide +kernel)) ggL_law_L_number
set_option maxRecDepth 20000 in
theorem ggL_law_X1_number : GoodIn wsL_law wsX1_number := goodIn_r _ [112, 113, 114, 5, 115, 116, 117, 118, 54, 55, 56, 57, 58, 59, 119, 120, 121, 122, 75, 123, 124, 125, 51, 52, 53, 617, 618, 619, 620, 621, 622, 623, 624, 625] (by decide +kernel) (by decide +kernel)
set_option maxRecDepth 20000 in
theorem gL_law_X1_number : GoodIn wsL_law (wsV RL 130 RX1 yX1_number wsX1_number) := goodIn_app (goodIn_of _ (by decide +kernel)) ggL_law_X1_number
set_option maxRecDepth 20000 in
theorem ggL_law_X1_thrown : GoodIn wsL_law wsX1_thrown := goodIn_r _ [129, 75, 617, 618, 619, 620, 621, 622, 623, 624, 625] (by decide +kernel) (by decide +kernel)
set_option maxRecDepth 20000 in
theorem gL_law_X1_thrown : GoodIn wsL_law (wsV RL 131 RX1 yX1_thrown wsX1_thrown) := goodIn_app (goodIn_of _ (by decide +kernel)) ggL_law_X1_thrown
set_option maxRecDepth 20000 in
theorem ggL_law_L_numberByCounting : GoodIn wsL_law wsL_numberByCounting := goodIn_ca (goodIn_r _ [132, 81, 133, 134, 135, 2, 136, 86, 87, 88, 89, 90, 91, 92, 93, 94, 95, 96, 97, 98, 99, 100, 101, 102, 24, 25, 26, 103, 104, 105] (by decide +kernel) (by decide +kernel)) (goodIn_sub (fun _ h => List.mem_append_left _ (List.mem_append_left _ (List.mem_append_right _ h))) (by decide +kernel))
set_option maxRecDepth 20000 in
theorem gL_law_L_numberByCounting : GoodIn wsL_law (va_wsS RL 134 yL_numberByCounting wsL_numberByCounting) := goodIn_app (goodIn_of _ (by decide +kernel)) ggL_law_L_numberByCounting
set_option maxRecDepth 20000 in
theorem ggL_law_X1_numberByCounting : GoodIn wsL_law wsX1_numberByCounting := goodIn_r _ [140, 141, 110, 111, 5, 112, 113, 114, 115, 116, 117, 118, 54, 55, 56, 57, 58, 59, 119, 120, 121, 122, 75, 123, 124, 125, 51, 52, 53, 617, 618, 619, 620, 621, 622, 623, 624, 625] (by decide +kernel) (by decide +kernel)
set_option maxRecDepth 20000 in
theorem gL_law_X1_numberByCounting : GoodIn wsL_law (wsV RL 136 RX1 yX1_numberByCounting wsX1_numberByCounting) := goodIn_app (goodIn_of _ (by decide +kernel)) ggL_law_X1_numberByCounting
set_option maxRecDepth 20000 in
theorem ggL_law_L_yearOf : GoodIn wsL_law wsL_yearOf := goodIn_ca (goodIn_r _ [144, 81, 145, 146, 147, 2, 148, 149, 150, 151, 89, 90, 70, 152, 153, 154, 155, 156, 157, 158] (by decide +kernel) (by decide +kernel)) (goodIn_sub (fun _ h => List.mem_append_left _ (List.mem_append_left _ (List.mem_append_right _ h))) (by decide +kernel))
set_option maxRecDepth 20000 in
theorem gL_law_L_yearOf : GoodIn wsL_law (va_wsS RL 137 yL_yearOf wsL_yearOf) := goodIn_app (goodIn_of _ (by decide +kernel)) ggL_law_L_yearOf
set_option maxRecDepth 20000 in
theorem ggL_law_X1_yearOf : GoodIn wsL_law wsX1_yearOf := goodIn_r _ [162, 50, 163, 164, 165, 5, 166, 167, 168, 169, 170, 116, 117, 118, 119, 120, 121, 122, 75, 46, 47, 48, 49, 45, 44, 51, 52, 53, 54, 55, 56, 57, 58, 59, 617, 618, 619, 620, 621, 622, 623, 624, 625] (by decide +kernel) (by decide +kernel)
set_option maxRecDepth 20000 in
theorem gL_law_X1_yearOf : GoodIn wsL_law (wsV RL 140 RX1 yX1_yearOf wsX1_yearOf) := goodIn_app (goodIn_of _ (by decide +kernel)) ggL_law_X1_yearOf
set_option maxRecDepth 20000 in
theorem ggL_law_L_monthOf : GoodIn wsL_law wsL_monthOf := goodIn_ca (goodIn_r _ [173, 81, 174, 175, 176, 2, 177, 149, 150, 151, 89, 90, 70, 178, 179, 180, 181, 182, 183, 184, 185, 186, 187, 188, 189, 24, 25, 26] (by decide +kernel) (by decide +kernel)) (goodIn_sub (fun _ h => List.mem_append_left _ (List.mem_append_left _ (List.mem_append_right _ h))) (by decide +kernel))
set_option maxRecDepth 20000 in
theorem gL_law_L_monthOf : GoodIn wsL_law (va_wsS RL 141 yL_monthOf wsL_monthOf) := goodIn_app (goodIn_of _ (by decide +kernel)) ggL_law_L_monthOf
set_option maxRecDepth 20000 in
theorem ggL_law_X1_monthOf : GoodIn wsL_law wsX1_monthOf := goodIn_r _ [193, 45, 163, 164, 165, 5, 166, 167, 168, 169, 170, 116, 117, 118, 119, 120, 121, 122, 75, 46, 47, 48, 49, 50, 44, 51, 52, 53, 54, 55, 56, 57, 58, 59, 617, 618, 619, 620, 621, 622, 623, 624, 625] (by decide +kernel) (by decide +kernel)
set_option maxRecDepth 20000 in
theorem gL_law_X1_monthOf : GoodIn wsL_law (wsV RL 143 RX1 yX1_monthOf wsX1_monthOf) := goodIn_app (goodIn_of _ (by decide +kernel)) ggL_law_X1_monthOf
set_option maxRecDepth 20000 in
theorem ggL_law_L_dayOf : GoodIn wsL_law wsL_dayOf := goodIn_ca (goodIn_r _ [196, 81, 197, 198, 199, 2, 200, 149, 150, 151, 89, 90, 70, 152, 153, 154, 155, 156, 157, 158, 178, 179, 180, 181, 182, 183, 184, 185, 186, 187, 188, 189, 24, 25, 26, 103, 104, 105, 106, 107, 108, 100, 101, 102, 21, 22, 23] (by decide +kernel) (by decide +kernel)) (goodIn_sub (fun _ h => List.mem_append_left _ (List.mem_append_left _ (List.mem_append_right _ h))) (by decide +kernel))
set_option maxRecDepth 20000 in
theorem gL_law_L_dayOf : GoodIn wsL_law (va_wsS RL 144 yL_dayOf wsL_dayOf) := goodIn_app (goodIn_of _ (by decide +kernel)) ggL_law_L_dayOf
set_option maxRecDepth 20000 in
theorem ggL_law_X1_dayOf : GoodIn wsL_law wsX1_dayOf := goodIn_r _ [204, 44, 163, 164, 165, 5, 166, 167, 168, 169, 170, 116, 117, 118, 119, 120, 121, 122, 75, 46, 47, 48, 49, 50, 45, 51, 52, 53, 54, 55, 56, 57, 58, 59, 617, 618, 619, 620, 621, 622, 623, 624, 625] (by decide +kernel) (by decide +kernel)
set_option maxRecDepth 20000 in
theorem gL_law_X1_dayOf : GoodIn wsL_law (wsV RL 146 RX1 yX1_dayOf wsX1_dayOf) := goodIn_app (goodIn_of _ (by decide +kernel)) ggL_law_X1_dayOf
set_option maxRecDepth 20000 in
theorem ggL_law_L_weekdayOf : GoodIn wsL_law wsL_weekdayOf := goodIn_ca (goodIn_r _ [207, 81, 208, 209, 210, 2, 211, 149, 150, 151, 89, 90, 70] (by decide +kernel) (by decide +kernel)) (goodIn_sub (fun _ h => List.mem_append_left _ (List.mem_append_left _ (List.mem_append_right _ h))) (by decide +kernel))
set_option maxRecDepth 20000 in
theorem gL_law_L_weekdayOf : GoodIn wsL_law (va_wsS RL 147 yL_weekdayOf wsL_weekdayOf) := goodIn_app (goodIn_of _ (by decide +kernel)) ggL_law_L_weekdayOf
set_option maxRecDepth 20000 in
theorem ggL_law_X1_weekdayOf : GoodIn wsL_law wsX1_weekdayOf := goodIn_r _ [215, 167, 168, 5, 169, 170, 116, 117, 118, 119, 120, 121, 122, 75, 617, 618, 619, 620, 621, 622, 623, 624, 625] (by decide +kernel) (by decide +kernel)
set_option maxRecDepth 20000 in
theorem gL_law_X1_weekdayOf : GoodIn wsL_law (wsV RL 149 RX1 yX1_weekdayOf wsX1_weekdayOf) := goodIn_app (goodIn_of _ (by decide +kernel)) ggL_law_X1_weekdayOf
set_option maxRecDepth 20000 in
theorem ggL_law_L_anchorOf : GoodIn wsL_law wsL_anchorOf := goodIn_ca (goodIn_r _ [218, 81, 219, 220, 221, 2, 222, 149, 150, 151, 89, 90, 70, 178, 179, 180, 181, 182, 183, 184, 185, 186, 223, 224, 225, 187, 188, 189, 24, 25, 26, 18, 19, 20, 21, 22, 23, 27, 28, 29, 226, 227, 228] (by decide +kernel) (by decide +kernel)) (goodIn_sub (fun _ h => List.mem_append_left _ (List.mem_append_left _ (List.mem_append_right _ h))) (by decide +kernel))
set_option maxRecDepth 20000 in
theorem gL_law_L_anchorOf : GoodIn wsL_law (va_wsS RL 150 yL_anchorOf wsL_anchorOf) := goodIn_app (goodIn_of _ (by decide +kernel)) ggL_law_L_anchorOf
set_option maxRecDepth 20000 in
theorem ggL_law_X1_anchorOf : GoodIn wsL_law wsX1_anchorOf := goodIn_r _ [232, 163, 164, 165, 5, 166, 167, 168, 169, 170, 116, 117, 118, 119, 120, 121, 122, 75, 46, 47, 48, 49, 50, 45, 44, 51, 52, 53, 54, 55, 56, 57, 58, 59, 233, 234, 235, 236, 63, 64, 65, 60, 61, 62, 617, 618, 619, 620, 621, 622, 623, 624, 625] (by decide +kernel) (by decide +kernel)
set_option maxRecDepth 20000 in
theorem gL_law_X1_anchorOf : GoodIn wsL_law (wsV RL 152 RX1 yX1_anchorOf wsX1_anchorOf) := goodIn_app (goodIn_of _ (by decide +kernel)) ggL_law_X1_anchorOf
set_option maxRecDepth 20000 in
theorem ggL_law_L_anchorMonthOf : GoodIn wsL_law wsL_anchorMonthOf := goodIn_ca (goodIn_r _ [239, 81, 240, 241, 242, 2, 243, 149, 150, 151, 89, 90, 70, 178, 179, 180, 181, 182, 183, 184, 185, 186, 187, 188, 189, 24, 25, 26, 226, 227, 228, 18, 19, 20, 21, 22, 23, 27, 28, 29] (by decide +kernel) (by decide +kernel)) (goodIn_sub (fun _ h => List.mem_append_left _ (List.mem_append_left _ (List.mem_append_right _ h))) (by decide +kernel))
set_option maxRecDepth 20000 in
theorem gL_law_L_anchorMonthOf : GoodIn wsL_law (va_wsS RL 153 yL_anchorMonthOf wsL_anchorMonthOf) := goodIn_app (goodIn_of _ (by decide +kernel)) ggL_law_L_anchorMonthOf
set_option maxRecDepth 20000 in
theorem ggL_law_X1_anchorMonthOf : GoodIn wsL_law wsX1_anchorMonthOf := goodIn_r _ [247, 163, 164, 165, 5, 166, 167, 168, 169, 170, 116, 117, 118, 119, 120, 121, 122, 75, 46, 47, 48, 49, 50, 45, 44, 51, 52, 53, 54, 55, 56, 57, 58, 59, 248, 249, 250, 251, 63, 64, 65, 60, 61, 62, 617, 618, 619, 620, 621, 622, 623, 624, 625] (by decide +kernel) (by decide +kernel)
set_option maxRecDepth 20000 in
theorem gL_law_X1_anchorMonthOf : GoodIn wsL_law (wsV RL 155 RX1 yX1_anchorMonthOf wsX1_anchorMonthOf) := goodIn_app (goodIn_of _ (by decide +kernel)) ggL_law_X1_anchorMonthOf
set_option maxRecDepth 20000 in
theorem ggL_law_L_countOf : GoodIn wsL_law wsL_countOf := goodIn_ca (goodIn_r _ [254, 81, 255, 256, 257, 2, 258, 149, 150, 151, 89, 90, 70, 178, 179, 180, 181, 182, 183, 184, 185, 186, 187, 188, 189, 24, 25, 26, 226, 227, 228, 18, 19, 20, 21, 22, 23, 27, 28, 29, 223, 224, 225] (by decide +kernel) (by decide +kernel)) (goodIn_sub (fun _ h => List.mem_append_left _ (List.mem_append_left _ (List.mem_append_right _ h))) (by decide +kernel))
set_option maxRecDepth 20000 in
theorem gL_law_L_countOf : GoodIn wsL_law (va_wsS RL 156 yL_countOf wsL_countOf) := goodIn_app (goodIn_of _ (by decide +kernel)) ggL_law_L_countOf
set_option maxRecDepth 20000 in
theorem ggL_law_X1_countOf : GoodIn wsL_law wsX1_countOf := goodIn_r _ [262, 163, 164, 165, 5, 166, 167, 168, 169, 170, 116, 117, 118, 119, 120, 121, 122, 75, 46, 47, 48, 49, 50, 45, 44, 51, 52, 53, 54, 55, 56, 57, 58, 59, 263, 264, 265, 266, 63, 64, 65, 60, 61, 62, 617, 618, 619, 620, 621, 622, 623, 624, 625] (by decide +kernel) (by decide +kernel)
set_option maxRecDepth 20000 in
theorem gL_law_X1_countOf : GoodIn wsL_law (wsV RL 158 RX1 yX1_countOf wsX1_countOf) := goodIn_app (goodIn_of _ (by decide +kernel)) ggL_law_X1_countOf
set_option maxRecDepth 20000 in
theorem ggL_law_L_isDoubled : GoodIn wsL_law wsL_isDoubled := goodIn_ca (goodIn_r _ [269, 81, 270, 271, 272, 2, 273, 149, 150, 151, 89, 90, 70] (by decide +kernel) (by decide +kernel)) (goodIn_sub (fun _ h => List.mem_append_left _ (List.mem_append_left _ (List.mem_append_right _ h))) (by decide +kernel))
set_option maxRecDepth 20000 in
theorem gL_law_L_isDoubled : GoodIn wsL_law (va_wsS RL 159 yL_isDoubled wsL_isDoubled) := goodIn_app (goodIn_of _ (by decide +kernel)) ggL_law_L_isDoubled
set_option maxRecDepth 20000 in
theorem ggL_law_X1_isDoubled : GoodIn wsL_law wsX1_isDoubled := goodIn_r _ [277, 163, 164, 165, 5, 166, 167, 168, 169, 170, 116, 117, 118, 119, 120, 121, 122, 75, 46, 47, 48, 49, 50, 45, 44, 51, 52, 53, 54, 55, 56, 57, 58, 59, 278, 279, 280, 281, 617, 618, 619, 620, 621, 622, 623, 624, 625] (by decide +kernel) (by decide +kernel)
set_option maxRecDepth 20000 in
theorem gL_law_X1_isDoubled : GoodIn wsL_law (wsV RL 161 RX1 yX1_isDoubled wsX1_isDoubled) := goodIn_app (goodIn_of _ (by decide +kernel)) ggL_law_X1_isDoubled
set_option maxRecDepth 20000 in
theorem ggL_law_L_fromCount : GoodIn wsL_law wsL_fromCount := goodIn_ca (goodIn_ca (goodIn_ca (goodIn_r _ [284, 81, 285, 286, 287, 288, 289, 2, 290, 291, 292, 293, 294, 91, 92, 93, 89, 90, 94, 95, 96, 295, 296, 297, 298, 299, 300, 27, 28, 29, 24, 25, 26, 301, 302, 303, 100, 101, 102, 18, 19, 20, 21, 22, 23, 304, 305, 306, 103, 104, 105] (by decide +kernel) (by decide +kernel)) (goodIn_sub (fun _ h => List.mem_append_left _ (List.mem_append_right _ h)) (by decide +kernel))) (goodIn_sub (fun _ h => List.mem_append_right _ h) (by decide +kernel))) (goodIn_sub (fun _ h => List.mem_append_left _ (List.mem_append_left _ (List.mem_append_right _ h))) (by decide +kernel))
set_option maxRecDepth 20000 in
theorem gL_law_L_fromCount : GoodIn wsL_law (va_wsS RL 162 yL_fromCount wsL_fromCount) := goodIn_app (goodIn_of _ (by decide +kernel)) ggL_law_L_fromCount
set_option maxRecDepth 20000 in
theorem ggL_law_X1_fromCount : GoodIn wsL_law wsX1_fromCount := goodIn_r _ [310, 113, 114, 5, 115, 116, 117, 118, 311, 312, 313, 314, 51, 52, 53, 46, 47, 48, 49, 50, 45, 44, 54, 55, 56, 57, 58, 59, 233, 234, 235, 236, 63, 64, 65, 60, 61, 62, 248, 249, 250, 251, 263, 264, 265, 266, 278, 279, 280, 281, 119, 120, 121, 122, 75, 617, 618, 619, 620, 621, 622, 623, 624, 625] (by decide +kernel) (by decide +kernel)
set_option maxRecDepth 20000 in
theorem gL_law_X1_fromCount : GoodIn wsL_law (wsV RL 165 RX1 yX1_fromCount wsX1_fromCount) := goodIn_app (goodIn_of _ (by decide +kernel)) ggL_law_X1_fromCount
set_option maxRecDepth 20000 in
theorem ggL_law_L_greatestCount : GoodIn wsL_law wsL_greatestCount := goodIn_ca (goodIn_ca (goodIn_r _ [317, 81, 285, 318, 319, 320, 2, 321, 91, 92, 93, 89, 90, 94, 95, 96, 295, 296, 297, 291, 292, 298, 299, 300, 27, 28, 29, 24, 25, 26] (by decide +kernel) (by decide +kernel)) (goodIn_sub (fun _ h => List.mem_append_left _ (List.mem_append_left _ (List.mem_append_right _ h))) (by decide +kernel))) (goodIn_sub (fun _ h => List.mem_append_left _ (List.mem_append_right _ h)) (by decide +kernel))
set_option maxRecDepth 20000 in
theorem gL_law_L_greatestCount : GoodIn wsL_law (va_wsS RL 166 yL_greatestCount wsL_greatestCount) := goodIn_app (goodIn_of _ (by decide +kernel)) ggL_law_L_greatestCount
set_option maxRecDepth 20000 in
theorem ggL_law_X1_greatestCount : GoodIn wsL_law wsX1_greatestCount := goodIn_r _ [325, 113, 114, 5, 115, 116, 117, 118, 119, 120, 121, 122, 75, 51, 52, 53, 46, 47, 48, 49, 50, 45, 44, 54, 55, 56, 57, 58, 59, 233, 234, 235, 236, 63, 64, 65, 60, 61, 62, 248, 249, 250, 251, 263, 264, 265, 266, 617, 618, 619, 620, 621, 622, 623, 624, 625] (by decide +kernel) (by decide +kernel)
set_option maxRecDepth 20000 in
theorem gL_law_X1_greatestCount : GoodIn wsL_law (wsV RL 168 RX1 yX1_greatestCount wsX1_greatestCount) := goodIn_app (goodIn_of _ (by decide +kernel)) ggL_law_X1_greatestCount
set_option maxRecDepth 20000 in
theorem ggL_law_L_lawNumber : GoodIn wsL_law wsL_lawNumber := goodIn_ca (goodIn_r _ [328, 81, 329, 330, 331, 2, 332, 149, 150, 151, 89, 90, 70, 181, 182, 183, 184, 185, 186] (by decide +kernel) (by decide +kernel)) (goodIn_sub (fun _ h => List.mem_append_left _ (List.mem_append_left _ (List.mem_append_right _ h))) (by decide +kernel))
set_option maxRecDepth 20000 in
theorem gL_law_L_lawNumber : GoodIn wsL_law (va_wsS RL 169 yL_lawNumber wsL_lawNumber) := goodIn_app (goodIn_of _ (by decide +kernel)) ggL_law_L_lawNumber
set_option maxRecDepth 20000 in
theorem ggL_law_X1_lawNumber : GoodIn wsL_law wsX1_lawNumber := goodIn_r _ [336, 167, 168, 5, 169, 170, 116, 117, 118, 119, 120, 121, 122, 75, 337, 338, 339, 340, 50, 45, 44, 46, 47, 48, 49, 51, 52, 53, 54, 55, 56, 57, 58, 59, 617, 618, 619, 620, 621, 622, 623, 624, 625] (by decide +kernel) (by decide +kernel)
set_option maxRecDepth 20000 in
theorem gL_law_X1_lawNumber : GoodIn wsL_law (wsV RL 171 RX1 yX1_lawNumber wsX1_lawNumber) := goodIn_app (goodIn_of _ (by decide +kernel)) ggL_law_X1_lawNumber
set_option maxRecDepth 20000 in
theorem ggL_law_L_termEnd : GoodIn wsL_law wsL_termEnd := goodIn_ca (goodIn_ca (goodIn_ca (goodIn_r _ [343, 81, 285, 286, 344, 345, 346, 2, 347, 291, 292, 293, 294, 348, 349, 149, 150, 151, 89, 90, 70, 181, 182, 183, 184, 185, 186, 304, 305, 306, 100, 101, 102, 103, 104, 105] (by decide +kernel) (by decide +kernel)) (goodIn_sub (fun _ h => List.mem_append_left _ (List.mem_append_right _ h)) (by decide +kernel))) (goodIn_sub (fun _ h => List.mem_append_right _ h) (by decide +kernel))) (goodIn_sub (fun _ h => List.mem_append_left _ (List.mem_append_left _ (List.mem_append_right _ h))) (by decide +kernel))
set_option maxRecDepth 20000 in
theorem gL_law_L_termEnd : GoodIn wsL_law (va_wsS RL 172 yL_termEnd wsL_termEnd) := goodIn_app (goodIn_of _ (by decide +kernel)) ggL_law_L_termEnd
set_option maxRecDepth 20000 in
theorem ggL_law_X1_termEnd : GoodIn wsL_law wsX1_termEnd := goodIn_r _ [353, 354, 76, 167, 168, 5, 169, 170, 116, 117, 118, 337, 338, 339, 340, 50, 45, 44, 46, 47, 48, 49, 51, 52, 53, 54, 55, 56, 57, 58, 59, 119, 120, 121, 122, 75, 617, 618, 619, 620, 621, 622, 623, 624, 625] (by decide +kernel) (by decide +kernel)
set_option maxRecDepth 20000 in
theorem gL_law_X1_termEnd : GoodIn wsL_law (wsV RL 175 RX1 yX1_termEnd wsX1_termEnd) := goodIn_app (goodIn_of _ (by decide +kernel)) ggL_law_X1_termEnd
set_option maxRecDepth 20000 in
theorem ggL_law_L_lawDays : GoodIn wsL_law wsL_lawDays := goodIn_ca (goodIn_r _ [357, 81, 358, 359, 360, 2, 361, 149, 150, 151, 89, 90, 70, 181, 182, 183, 184, 185, 186] (by decide +kernel) (by decide +kernel)) (goodIn_sub (fun _ h => List.mem_append_left _ (List.mem_append_left _ (List.mem_append_right _ h))) (by decide +kernel))
set_option maxRecDepth 20000 in
theorem gL_law_L_lawDays : GoodIn wsL_law (va_wsS RL 176 yL_lawDays wsL_lawDays) := goodIn_app (goodIn_of _ (by decide +kernel)) ggL_law_L_lawDays
set_option maxRecDepth 20000 in
theorem ggL_law_X1_lawDays : GoodIn wsL_law wsX1_lawDays := goodIn_r _ [365, 167, 168, 5, 169, 170, 116, 117, 118, 119, 120, 121, 122, 75, 337, 338, 339, 340, 50, 45, 44, 46, 47, 48, 49, 51, 52, 53, 54, 55, 56, 57, 58, 59, 617, 618, 619, 620, 621, 622, 623, 624, 625] (by decide +kernel) (by decide +kernel)
set_option maxRecDepth 20000 in
theorem gL_law_X1_lawDays : GoodIn wsL_law (wsV RL 178 RX1 yX1_lawDays wsX1_lawDays) := goodIn_app (goodIn_of _ (by decide +kernel)) ggL_law_X1_lawDays
set_option maxRecDepth 20000 in
theorem ggL_law_L_placeOf : GoodIn wsL_law wsL_placeOf := goodIn_ca (goodIn_r _ [368, 81, 369, 370, 371, 2, 372, 149, 150, 151, 89, 90, 70, 178, 179, 180, 181, 182, 183, 184, 185, 186] (by decide +kernel) (by decide +kernel)) (goodIn_sub (fun _ h => List.mem_append_left _ (List.mem_append_left _ (List.mem_append_right _ h))) (by decide +kernel))
set_option maxRecDepth 20000 in
theorem gL_law_L_placeOf : GoodIn wsL_law (va_wsS RL 179 yL_placeOf wsL_placeOf) := goodIn_app (goodIn_of _ (by decide +kernel)) ggL_law_L_placeOf
set_option maxRecDepth 20000 in
theorem ggL_law_X1_placeOf : GoodIn wsL_law wsX1_placeOf := goodIn_r _ [376, 167, 168, 5, 169, 170, 116, 117, 118, 119, 120, 121, 122, 75, 377, 378, 379, 380, 50, 45, 44, 46, 47, 48, 49, 51, 52, 53, 54, 55, 56, 57, 58, 59, 617, 618, 619, 620, 621, 622, 623, 624, 625] (by decide +kernel) (by decide +kernel)
set_option maxRecDepth 20000 in
theorem gL_law_X1_placeOf : GoodIn wsL_law (wsV RL 181 RX1 yX1_placeOf wsX1_placeOf) := goodIn_app (goodIn_of _ (by decide +kernel)) ggL_law_X1_placeOf
set_option maxRecDepth 20000 in
theorem ggL_law_L_letterOfEight : GoodIn wsL_law wsL_letterOfEight := goodIn_ca (goodIn_r _ [383, 81, 384, 385, 386, 2, 387, 149, 150, 151, 89, 90, 70, 388, 389, 390, 178, 179, 180, 181, 182, 183, 184, 185, 186] (by decide +kernel) (by decide +kernel)) (goodIn_sub (fun _ h => List.mem_append_left _ (List.mem_append_left _ (List.mem_append_right _ h))) (by decide +kernel))
set_option maxRecDepth 20000 in
theorem gL_law_L_letterOfEight : GoodIn wsL_law (va_wsS RL 182 yL_letterOfEight wsL_letterOfEight) := goodIn_app (goodIn_of _ (by decide +kernel)) ggL_law_L_letterOfEight
set_option maxRecDepth 20000 in
theorem ggL_law_X1_letterOfEight : GoodIn wsL_law wsX1_letterOfEight := goodIn_r _ [394, 167, 168, 5, 169, 170, 116, 117, 118, 119, 120, 121, 122, 75, 377, 378, 379, 380, 50, 45, 44, 46, 47, 48, 49, 51, 52, 53, 54, 55, 56, 57, 58, 59, 617, 618, 619, 620, 621, 622, 623, 624, 625] (by decide +kernel) (by decide +kernel)
set_option maxRecDepth 20000 in
theorem gL_law_X1_letterOfEight : GoodIn wsL_law (wsV RL 184 RX1 yX1_letterOfEight wsX1_letterOfEight) := goodIn_app (goodIn_of _ (by decide +kernel)) ggL_law_X1_letterOfEight
set_option maxRecDepth 20000 in
theorem ggL_law_L_letterOfSeven : GoodIn wsL_law wsL_letterOfSeven := goodIn_ca (goodIn_r _ [397, 81, 398, 399, 400, 2, 401, 149, 150, 151, 89, 90, 70, 402, 403, 404, 178, 179, 180, 181, 182, 183, 184, 185, 186] (by decide +kernel) (by decide +kernel)) (goodIn_sub (fun _ h => List.mem_append_left _ (List.mem_append_left _ (List.mem_append_right _ h))) (by decide +kernel))
set_option maxRecDepth 20000 in
theorem gL_law_L_letterOfSeven : GoodIn wsL_law (va_wsS RL 185 yL_letterOfSeven wsL_letterOfSeven) := goodIn_app (goodIn_of _ (by decide +kernel)) ggL_law_L_letterOfSeven
set_option maxRecDepth 20000 in
theorem ggL_law_X1_letterOfSeven : GoodIn wsL_law wsX1_letterOfSeven := goodIn_r _ [408, 167, 168, 5, 169, 170, 116, 117, 118, 119, 120, 121, 122, 75, 377, 378, 379, 380, 50, 45, 44, 46, 47, 48, 49, 51, 52, 53, 54, 55, 56, 57, 58, 59, 617, 618, 619, 620, 621, 622, 623, 624, 625] (by decide +kernel) (by decide +kernel)
set_option maxRecDepth 20000 in
theorem gL_law_X1_letterOfSeven : GoodIn wsL_law (wsV RL 187 RX1 yX1_letterOfSeven wsX1_letterOfSeven) := goodIn_app (goodIn_of _ (by decide +kernel)) ggL_law_X1_letterOfSeven
set_option maxRecDepth 20000 in
theorem ggL_law_L_setMarketDay : GoodIn wsL_law wsL_setMarketDay := goodIn_ca (goodIn_r _ [411, 81, 412, 413, 414, 2, 415, 17, 149, 150, 151, 89, 90, 70, 613, 614, 615, 616] (by decide +kernel) (by decide +kernel)) (goodIn_sub (fun _ h => List.mem_append_left _ (List.mem_append_left _ (List.mem_append_right _ h))) (by decide +kernel))
set_option maxRecDepth 20000 in
theorem gL_law_L_setMarketDay : GoodIn wsL_law (va_wsS RL 188 yL_setMarketDay wsL_setMarketDay) := goodIn_app (goodIn_of _ (by decide +kernel)) ggL_law_L_setMarketDay
set_option maxRecDepth 20000 in
theorem ggL_law_X1_setMarketDay : GoodIn wsL_law wsX1_setMarketDay := goodIn_r _ [419, 420, 167, 168, 5, 169, 170, 116, 117, 118, 119, 120, 121, 122, 75, 617, 618, 619, 620, 621, 622, 623, 624, 625] (by decide +kernel) (by decide +kernel)
set_option maxRecDepth 20000 in
theorem gL_law_X1_setMarketDay : GoodIn wsL_law (wsV RL 190 RX1 yX1_setMarketDay wsX1_setMarketDay) := goodIn_app (goodIn_of _ (by decide +kernel)) ggL_law_X1_setMarketDay
set_option maxRecDepth 20000 in
theorem ggL_law_L_isMarket : GoodIn wsL_law wsL_isMarket := goodIn_ca (goodIn_r _ [423, 81, 424, 425, 426, 2, 427, 149, 150, 151, 89, 90, 70, 428, 429, 430, 431, 17, 613, 614, 615, 616] (by decide +kernel) (by decide +kernel)) (goodIn_sub (fun _ h => List.mem_append_left _ (List.mem_append_left _ (List.mem_append_right _ h))) (by decide +kernel))
set_option maxRecDepth 20000 in
theorem gL_law_L_isMarket : GoodIn wsL_law (va_wsS RL 191 yL_isMarket wsL_isMarket) := goodIn_app (goodIn_of _ (by decide +kernel)) ggL_law_L_isMarket
set_option maxRecDepth 20000 in
theorem ggL_law_X1_isMarket : GoodIn wsL_law wsX1_isMarket := goodIn_r _ [435, 420, 167, 168, 5, 169, 170, 116, 117, 118, 119, 120, 121, 122, 75, 617, 618, 619, 620, 621, 622, 623, 624, 625] (by decide +kernel) (by decide +kernel)
set_option maxRecDepth 20000 in
theorem gL_law_X1_isMarket : GoodIn wsL_law (wsV RL 193 RX1 yX1_isMarket wsX1_isMarket) := goodIn_app (goodIn_of _ (by decide +kernel)) ggL_law_X1_isMarket
set_option maxRecDepth 20000 in
theorem ggL_law_L_marketLetters : GoodIn wsL_law wsL_marketLetters := goodIn_ca (goodIn_r _ [438, 81, 439, 440, 441, 2, 442, 17, 91, 92, 93, 89, 90, 103, 104, 105, 443, 444, 445, 446, 447, 448, 449, 388, 389, 390, 178, 179, 180, 181, 182, 183, 184, 185, 186, 613, 614, 615, 616] (by decide +kernel) (by decide +kernel)) (goodIn_sub (fun _ h => List.mem_append_left _ (List.mem_append_left _ (List.mem_append_right _ h))) (by decide +kernel))
set_option maxRecDepth 20000 in
theorem gL_law_L_marketLetters : GoodIn wsL_law (va_wsS RL 194 yL_marketLetters wsL_marketLetters) := goodIn_app (goodIn_of _ (by decide +kernel)) ggL_law_L_marketLetters
set_option maxRecDepth 20000 in
theorem ggL_law_X1_marketLetters : GoodIn wsL_law wsX1_marketLetters := goodIn_r _ [453, 420, 113, 114, 5, 115, 116, 117, 118, 119, 120, 121, 122, 75, 454, 455, 456, 457, 51, 52, 53, 377, 378, 379, 380, 50, 45, 44, 46, 47, 48, 49, 54, 55, 56, 57, 58, 59, 617, 618, 619, 620, 621, 622, 623, 624, 625] (by decide +kernel) (by decide +kernel)
set_option maxRecDepth 20000 in
theorem gL_law_X1_marketLetters : GoodIn wsL_law (wsV RL 196 RX1 yX1_marketLetters wsX1_marketLetters) := goodIn_app (goodIn_of _ (by decide +kernel)) ggL_law_X1_marketLetters
set_option maxRecDepth 20000 in
theorem ggL_law_L_sundayLetters : GoodIn wsL_law wsL_sundayLetters := goodIn_ca (goodIn_r _ [460, 81, 461, 462, 463, 2, 464, 91, 92, 93, 89, 90, 103, 104, 105, 443, 444, 445, 446, 447, 448, 449, 402, 403, 404, 178, 179, 180, 181, 182, 183, 184, 185, 186] (by decide +kernel) (by decide +kernel)) (goodIn_sub (fun _ h => List.mem_append_left _ (List.mem_append_left _ (List.mem_append_right _ h))) (by decide +kernel))
set_option maxRecDepth 20000 in
theorem gL_law_L_sundayLetters : GoodIn wsL_law (va_wsS RL 197 yL_sundayLetters wsL_sundayLetters) := goodIn_app (goodIn_of _ (by decide +kernel)) ggL_law_L_sundayLetters
set_option maxRecDepth 20000 in
theorem ggL_law_X1_sundayLetters : GoodIn wsL_law wsX1_sundayLetters := goodIn_r _ [468, 113, 114, 5, 115, 116, 117, 118, 119, 120, 121, 122, 75, 454, 455, 456, 457, 51, 52, 53, 377, 378, 379, 380, 50, 45, 44, 46, 47, 48, 49, 54, 55, 56, 57, 58, 59, 617, 618, 619, 620, 621, 622, 623, 624, 625] (by decide +kernel) (by decide +kernel)
set_option maxRecDepth 20000 in
theorem gL_law_X1_sundayLetters : GoodIn wsL_law (wsV RL 199 RX1 yX1_sundayLetters wsX1_sundayLetters) := goodIn_app (goodIn_of _ (by decide +kernel)) ggL_law_X1_sundayLetters
set_option maxRecDepth 20000 in
theorem ggL_law_L_setConsuls : GoodIn wsL_law wsL_setConsuls := goodIn_ca (goodIn_ca (goodIn_ca (goodIn_r _ [471, 81, 285, 286, 472, 473, 474, 2, 475, 291, 292, 293, 294, 15, 16, 91, 92, 93, 89, 90, 476, 477, 478, 479, 480, 481, 482, 483, 484, 485, 486, 487, 488, 489, 613, 614, 615, 616] (by decide +kernel) (by decide +kernel)) (goodIn_sub (fun _ h => List.mem_append_left _ (List.mem_append_right _ h)) (by decide +kernel))) (goodIn_sub (fun _ h => List.mem_append_right _ h) (by decide +kernel))) (goodIn_sub (fun _ h => List.mem_append_left _ (List.mem_append_left _ (List.mem_append_right _ h))) (by decide +kernel))
set_option maxRecDepth 20000 in
theorem gL_law_L_setConsuls : GoodIn wsL_law (va_wsS RL 200 yL_setConsuls wsL_setConsuls) := goodIn_app (goodIn_of _ (by decide +kernel)) ggL_law_L_setConsuls
set_option maxRecDepth 20000 in
theorem ggL_law_X1_setConsuls : GoodIn wsL_law wsX1_setConsuls := goodIn_r _ [493, 42, 494, 43, 116, 117, 5, 118, 113, 114, 115, 119, 120, 121, 122, 75, 617, 618, 619, 620, 621, 622, 623, 624, 625] (by decide +kernel) (by decide +kernel)
set_option maxRecDepth 20000 in
theorem gL_law_X1_setConsuls : GoodIn wsL_law (wsV RL 202 RX1 yX1_setConsuls wsX1_setConsuls) := goodIn_app (goodIn_of _ (by decide +kernel)) ggL_law_X1_setConsuls
set_option maxRecDepth 20000 in
theorem ggL_law_L_strikeConsuls : GoodIn wsL_law wsL_strikeConsuls := goodIn_ca (goodIn_ca (goodIn_r _ [497, 81, 286, 498, 499, 500, 2, 501, 293, 294, 15, 91, 92, 93, 89, 90, 479, 480, 481, 482, 483, 484, 485, 486, 487, 488, 489, 613, 614, 615, 616] (by decide +kernel) (by decide +kernel)) (goodIn_sub (fun _ h => List.mem_append_right _ h) (by decide +kernel))) (goodIn_sub (fun _ h => List.mem_append_left _ (List.mem_append_left _ (List.mem_append_right _ h))) (by decide +kernel))
set_option maxRecDepth 20000 in
theorem gL_law_L_strikeConsuls : GoodIn wsL_law (va_wsS RL 203 yL_strikeConsuls wsL_strikeConsuls) := goodIn_app (goodIn_of _ (by decide +kernel)) ggL_law_L_strikeConsuls
set_option maxRecDepth 20000 in
theorem ggL_law_X1_strikeConsuls : GoodIn wsL_law wsX1_strikeConsuls := goodIn_r _ [505, 42, 43, 494, 113, 114, 5, 115, 116, 117, 118, 119, 120, 121, 122, 75, 617, 618, 619, 620, 621, 622, 623, 624, 625] (by decide +kernel) (by decide +kernel)
set_option maxRecDepth 20000 in
theorem gL_law_X1_strikeConsuls : GoodIn wsL_law (wsV RL 205 RX1 yX1_strikeConsuls wsX1_strikeConsuls) := goodIn_app (goodIn_of _ (by decide +kernel)) ggL_law_X1_strikeConsuls
set_option maxRecDepth 20000 in
theorem ggL_law_L_consulsOf : GoodIn wsL_law wsL_consulsOf := goodIn_ca (goodIn_r _ [508, 81, 509, 510, 511, 2, 512, 16, 91, 92, 93, 89, 90, 479, 480, 481, 482, 15, 483, 484, 485, 613, 614, 615, 616] (by decide +kernel) (by decide +kernel)) (goodIn_sub (fun _ h => List.mem_append_left _ (List.mem_append_left _ (List.mem_append_right _ h))) (by decide +kernel))
set_option maxRecDepth 20000 in
theorem gL_law_L_consulsOf : GoodIn wsL_law (va_wsS RL 206 yL_consulsOf wsL_consulsOf) := goodIn_app (goodIn_of _ (by decide +kernel)) ggL_law_L_consulsOf
set_option maxRecDepth 20000 in
theorem ggL_law_X1_consulsOf : GoodIn wsL_law wsX1_consulsOf := goodIn_r _ [516, 42, 43, 113, 114, 5, 115, 116, 117, 118, 119, 120, 121, 122, 75, 617, 618, 619, 620, 621, 622, 623, 624, 625] (by decide +kernel) (by decide +kernel)
set_option maxRecDepth 20000 in
theorem gL_law_X1_consulsOf : GoodIn wsL_law (wsV RL 208 RX1 yX1_consulsOf wsX1_consulsOf) := goodIn_app (goodIn_of _ (by decide +kernel)) ggL_law_X1_consulsOf
set_option maxRecDepth 20000 in
theorem ggL_law_L_afterConsuls : GoodIn wsL_law wsL_afterConsuls := goodIn_ca (goodIn_r _ [519, 81, 520, 521, 522, 2, 523, 15, 91, 92, 93, 89, 90, 613, 614, 615, 616] (by decide +kernel) (by decide +kernel)) (goodIn_sub (fun _ h => List.mem_append_left _ (List.mem_append_left _ (List.mem_append_right _ h))) (by decide +kernel))
set_option maxRecDepth 20000 in
theorem gL_law_L_afterConsuls : GoodIn wsL_law (va_wsS RL 209 yL_afterConsuls wsL_afterConsuls) := goodIn_app (goodIn_of _ (by decide +kernel)) ggL_law_L_afterConsuls
set_option maxRecDepth 20000 in
theorem ggL_law_X1_afterConsuls : GoodIn wsL_law wsX1_afterConsuls := goodIn_r _ [527, 42, 113, 114, 5, 115, 116, 117, 118, 119, 120, 121, 122, 75, 617, 618, 619, 620, 621, 622, 623, 624, 625] (by decide +kernel) (by decide +kernel)
set_option maxRecDepth 20000 in
theorem gL_law_X1_afterConsuls : GoodIn wsL_law (wsV RL 211 RX1 yX1_afterConsuls wsX1_afterConsuls) := goodIn_app (goodIn_of _ (by decide +kernel)) ggL_law_X1_afterConsuls
set_option maxRecDepth 20000 in
theorem ggL_law_L_yearOfConsuls : GoodIn wsL_law wsL_yearOfConsuls := goodIn_ca (goodIn_r _ [530, 285, 531, 532, 533, 2, 534, 291, 292, 535, 536, 537, 538, 15, 16, 539, 540, 541, 613, 614, 615, 616] (by decide +kernel) (by decide +kernel)) (goodIn_sub (fun _ h => List.mem_append_left _ (List.mem_append_right _ h)) (by decide +kernel))
set_option maxRecDepth 20000 in
theorem gL_law_L_yearOfConsuls : GoodIn wsL_law (va_wsS RL 212 yL_yearOfConsuls wsL_yearOfConsuls) := goodIn_app (goodIn_of _ (by decide +kernel)) ggL_law_L_yearOfConsuls
set_option maxRecDepth 20000 in
theorem ggL_law_X1_yearOfConsuls : GoodIn wsL_law wsX1_yearOfConsuls := goodIn_r _ [545, 42, 43, 119, 120, 121, 5, 122, 75, 617, 618, 619, 620, 621, 622, 623, 624, 625] (by decide +kernel) (by decide +kernel)
set_option maxRecDepth 20000 in
theorem gL_law_X1_yearOfConsuls : GoodIn wsL_law (wsV RL 214 RX1 yX1_yearOfConsuls wsX1_yearOfConsuls) := goodIn_app (goodIn_of _ (by decide +kernel)) ggL_law_X1_yearOfConsuls
set_option maxRecDepth 20000 in
theorem ggL_law_L_setCharacter : GoodIn wsL_law wsL_setCharacter := goodIn_ca (goodIn_ca (goodIn_r _ [548, 81, 285, 549, 550, 551, 2, 552, 89, 90, 291, 292, 34, 35, 36, 553, 554, 555, 556, 14, 30, 31, 32, 33, 613, 614, 615, 616] (by decide +kernel) (by decide +kernel)) (goodIn_sub (fun _ h => List.mem_append_left _ (List.mem_append_left _ (List.mem_append_right _ h))) (by decide +kernel))) (goodIn_sub (fun _ h => List.mem_append_left _ (List.mem_append_right _ h)) (by decide +kernel))
set_option maxRecDepth 20000 in
theorem gL_law_L_setCharacter : GoodIn wsL_law (va_wsS RL 215 yL_setCharacter wsL_setCharacter) := goodIn_app (goodIn_of _ (by decide +kernel)) ggL_law_L_setCharacter
set_option maxRecDepth 20000 in
theorem ggL_law_X1_setCharacter : GoodIn wsL_law wsX1_setCharacter := goodIn_r _ [560, 41, 116, 117, 5, 118, 119, 120, 121, 122, 75, 617, 618, 619, 620, 621, 622, 623, 624, 625] (by decide +kernel) (by decide +kernel)
set_option maxRecDepth 20000 in
theorem gL_law_X1_setCharacter : GoodIn wsL_law (wsV RL 217 RX1 yX1_setCharacter wsX1_setCharacter) := goodIn_app (goodIn_of _ (by decide +kernel)) ggL_law_X1_setCharacter
set_option maxRecDepth 20000 in
theorem ggL_law_L_characterOf : GoodIn wsL_law wsL_characterOf := goodIn_ca (goodIn_r _ [563, 81, 564, 565, 566, 2, 567, 149, 150, 151, 89, 90, 70, 178, 179, 180, 181, 182, 183, 184, 185, 186, 553, 554, 555, 556, 14, 34, 35, 36, 613, 614, 615, 616] (by decide +kernel) (by decide +kernel)) (goodIn_sub (fun _ h => List.mem_append_left _ (List.mem_append_left _ (List.mem_append_right _ h))) (by decide +kernel))
set_option maxRecDepth 20000 in
theorem gL_law_L_characterOf : GoodIn wsL_law (va_wsS RL 218 yL_characterOf wsL_characterOf) := goodIn_app (goodIn_of _ (by decide +kernel)) ggL_law_L_characterOf
set_option maxRecDepth 20000 in
theorem ggL_law_X1_characterOf : GoodIn wsL_law wsX1_characterOf := goodIn_r _ [571, 41, 167, 168, 5, 169, 170, 116, 117, 118, 119, 120, 121, 122, 75, 377, 378, 379, 380, 50, 45, 44, 46, 47, 48, 49, 51, 52, 53, 54, 55, 56, 57, 58, 59, 617, 618, 619, 620, 621, 622, 623, 624, 625] (by decide +kernel) (by decide +kernel)
set_option maxRecDepth 20000 in
theorem gL_law_X1_characterOf : GoodIn wsL_law (wsV RL 220 RX1 yX1_characterOf wsX1_characterOf) := goodIn_app (goodIn_of _ (by decide +kernel)) ggL_law_X1_characterOf
set_option maxRecDepth 20000 in
theorem ggL_law_L_canVote : GoodIn wsL_law wsL_canVote := goodIn_ca (goodIn_r _ [574, 81, 575, 576, 577, 2, 578, 149, 150, 151, 89, 90, 70, 579, 580, 581, 582, 178, 179, 180, 181, 182, 183, 184, 185, 186, 553, 554, 555, 556, 14, 34, 35, 36, 428, 429, 430, 431, 17, 613, 614, 615, 616] (by decide +kernel) (by decide +kernel)) (goodIn_sub (fun _ h => List.mem_append_left _ (List.mem_append_left _ (List.mem_append_right _ h))) (by decide +kernel))
set_option maxRecDepth 20000 in
theorem gL_law_L_canVote : GoodIn wsL_law (va_wsS RL 221 yL_canVote wsL_canVote) := goodIn_app (goodIn_of _ (by decide +kernel)) ggL_law_L_canVote
set_option maxRecDepth 20000 in
theorem ggL_law_X1_canVote : GoodIn wsL_law wsX1_canVote := goodIn_r _ [586, 167, 168, 5, 169, 170, 116, 117, 118, 119, 120, 121, 122, 75, 587, 588, 589, 590, 41, 420, 377, 378, 379, 380, 50, 45, 44, 46, 47, 48, 49, 51, 52, 53, 54, 55, 56, 57, 58, 59, 617, 618, 619, 620, 621, 622, 623, 624, 625] (by decide +kernel) (by decide +kernel)
set_option maxRecDepth 20000 in
theorem gL_law_X1_canVote : GoodIn wsL_law (wsV RL 223 RX1 yX1_canVote wsX1_canVote) := goodIn_app (goodIn_of _ (by decide +kernel)) ggL_law_X1_canVote
set_option maxRecDepth 20000 in
theorem ggL_law_L_nextCourt : GoodIn wsL_law wsL_nextCourt := goodIn_ca (goodIn_r _ [593, 81, 594, 595, 596, 2, 597, 70, 155, 156, 157, 158, 149, 150, 151, 89, 90, 178, 179, 180, 181, 182, 183, 184, 185, 186, 553, 554, 555, 556, 14, 34, 35, 36, 613, 614, 615, 616] (by decide +kernel) (by decide +kernel)) (goodIn_sub (fun _ h => List.mem_append_left _ (List.mem_append_left _ (List.mem_append_right _ h))) (by decide +kernel))
set_option maxRecDepth 20000 in
theorem gL_law_L_nextCourt : GoodIn wsL_law (va_wsS RL 224 yL_nextCourt wsL_nextCourt) := goodIn_app (goodIn_of _ (by decide +kernel)) ggL_law_L_nextCourt
set_option maxRecDepth 20000 in
theorem ggL_law_X1_nextCourt : GoodIn wsL_law wsX1_nextCourt := goodIn_r _ [601, 76, 41, 167, 168, 5, 169, 170, 116, 117, 118, 119, 120, 121, 122, 75, 377, 378, 379, 380, 50, 45, 44, 46, 47, 48, 49, 51, 52, 53, 54, 55, 56, 57, 58, 59, 617, 618, 619, 620, 621, 622, 623, 624, 625] (by decide +kernel) (by decide +kernel)
set_option maxRecDepth 20000 in
theorem gL_law_X1_nextCourt : GoodIn wsL_law (wsV RL 226 RX1 yX1_nextCourt wsX1_nextCourt) := goodIn_app (goodIn_of _ (by decide +kernel)) ggL_law_X1_nextCourt
set_option maxRecDepth 20000 in
theorem ggL_law_L_votes : GoodIn wsL_law wsL_votes := goodIn_ca (goodIn_r _ [604, 81, 605, 606, 607, 2, 608, 91, 92, 93, 89, 90, 443, 444, 445, 103, 104, 105, 579, 580, 581, 582, 178, 179, 180, 181, 182, 183, 184, 185, 186, 553, 554, 555, 556, 14, 34, 35, 36, 428, 429, 430, 431, 17, 613, 614, 615, 616] (by decide +kernel) (by decide +kernel)) (goodIn_sub (fun _ h => List.mem_append_left _ (List.mem_append_left _ (List.mem_append_right _ h))) (by decide +kernel))
set_option maxRecDepth 20000 in
theorem gL_law_L_votes : GoodIn wsL_law (va_wsS RL 227 yL_votes wsL_votes) := goodIn_app (goodIn_of _ (by decide +kernel)) ggL_law_L_votes
set_option maxRecDepth 20000 in
theorem ggL_law_X1_votes : GoodIn wsL_law wsX1_votes := goodIn_r _ [612, 113, 114, 5, 115, 116, 117, 118, 119, 120, 121, 122, 75, 51, 52, 53, 587, 588, 589, 590, 41, 420, 377, 378, 379, 380, 50, 45, 44, 46, 47, 48, 49, 54, 55, 56, 57, 58, 59, 617, 618, 619, 620, 621, 622, 623, 624, 625] (by decide +kernel) (by decide +kernel)
set_option maxRecDepth 20000 in
theorem gL_law_X1_votes : GoodIn wsL_law (wsV RL 229 RX1 yX1_votes wsX1_votes) := goodIn_app (goodIn_of _ (by decide +kernel)) ggL_law_X1_votes

