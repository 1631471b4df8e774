set_option maxRecDepth 20000 in
theorem ggL_counted_X0_fromCount : GoodIn wsL_counted wsX0_fromCount := goodIn_ca (goodIn_ca (goodIn_ca (goodIn_r _ [6, 7, 8, 9, 10, 11, 12, 5, 13, 14, 15, 16, 17, 18, 19, 20, 21, 22, 23, 24, 25, 26, 27, 28, 29, 30, 31, 32, 33, 34, 35, 36, 37, 38, 39, 40, 41, 42, 43, 44, 45, 46, 47, 48] (by decide +kernel) (by decide +kernel)) (goodIn_sub (fun _ h => List.mem_cons_of_mem _ (List.mem_append_left _ (List.mem_append_left _ (List.mem_append_right _ h)))) (by decide +kernel))) (goodIn_sub (fun _ h => List.mem_cons_of_mem _ (List.mem_append_left _ (List.mem_append_right _ h))) (by decide +kernel))) (goodIn_sub (fun _ h => List.mem_cons_of_mem _ (List.mem_append_right _ h)) (by decide +kernel))
set_option maxRecDepth 20000 in
theorem gL_counted_X0_fromCount : GoodIn wsL_counted (wsV RL 7 RX0 yX0_fromCount wsX0_fromCount) := goodIn_app (goodIn_of _ (by decide +kernel)) ggL_counted_X0_fromCount
theorem dL_counted_0 : decode cL_counted 0 = .ok (.aload_n 0, 1) := by decide +kernel
theorem dL_counted_1 : decode cL_counted 1 = .ok (.iload_n 1, 1) := by decide +kernel
theorem dL_counted_2 : decode cL_counted 2 = .ok (.iload_n 2, 1) := by decide +kernel
theorem dL_counted_3 : decode cL_counted 3 = .ok (.iload_n 3, 1) := by decide +kernel
theorem dL_counted_4 : decode cL_counted 4 = .ok (.iload 4, 2) := by decide +kernel
theorem dL_counted_6 : decode cL_counted 6 = .ok (.iload 5, 2) := by decide +kernel
theorem dL_counted_8 : decode cL_counted 8 = .ok (.invokevirtual 7, 3) := by decide +kernel
theorem dL_counted_11 : decode cL_counted 11 = .ok (.ireturn, 1) := by decide +kernel
theorem dL_counted_12 : decode cL_counted 12 = .ok (.astore 6, 2) := by decide +kernel
theorem dL_counted_14 : decode cL_counted 14 = .ok (.bipush (-3), 2) := by decide +kernel
theorem dL_counted_16 : decode cL_counted 16 = .ok (.ireturn, 1) := by decide +kernel
set_option maxRecDepth 20000 in
theorem ggL_ends_X0_termEnd : GoodIn wsL_ends wsX0_termEnd := goodIn_ca (goodIn_ca (goodIn_ca (goodIn_r _ [6, 7, 8, 9, 10, 11, 12, 13, 14, 5, 15, 16, 17, 18, 19, 20, 21, 22, 23, 24, 25, 26, 27, 28, 29, 30, 31, 32, 33] (by decide +kernel) (by decide +kernel)) (goodIn_sub (fun _ h => List.mem_cons_of_mem _ (List.mem_append_left _ (List.mem_append_left _ (List.mem_append_right _ h)))) (by decide +kernel))) (goodIn_sub (fun _ h => List.mem_cons_of_mem _ (List.mem_append_left _ (List.mem_append_right _ h))) (by decide +kernel))) (goodIn_sub (fun _ h => List.mem_cons_of_mem _ (List.mem_append_right _ h)) (by decide +kernel))
set_option maxRecDepth 20000 in
theorem gL_ends_X0_termEnd : GoodIn wsL_ends (wsV RL 15 RX0 yX0_termEnd wsX0_termEnd) := goodIn_app (goodIn_of _ (by decide +kernel)) ggL_ends_X0_termEnd
theorem dL_ends_0 : decode cL_ends 0 = .ok (.aload_n 0, 1) := by decide +kernel
theorem dL_ends_1 : decode cL_ends 1 = .ok (.iload_n 1, 1) := by decide +kernel
theorem dL_ends_2 : decode cL_ends 2 = .ok (.iload_n 2, 1) := by decide +kernel
theorem dL_ends_3 : decode cL_ends 3 = .ok (.invokevirtual 15, 3) := by decide +kernel
theorem dL_ends_6 : decode cL_ends 6 = .ok (.ireturn, 1) := by decide +kernel
theorem dL_ends_7 : decode cL_ends 7 = .ok (.astore_n 3, 1) := by decide +kernel
theorem dL_ends_8 : decode cL_ends 8 = .ok (.bipush (-3), 2) := by decide +kernel
theorem dL_ends_10 : decode cL_ends 10 = .ok (.ireturn, 1) := by decide +kernel
set_option maxRecDepth 20000 in
theorem ggL_writes_X0_setConsuls : GoodIn wsL_writes wsX0_setConsuls := goodIn_ca (goodIn_ca (goodIn_ca (goodIn_r _ [7, 8, 9, 10, 11, 12, 13, 14, 15, 6, 16, 17, 18, 19, 20, 21, 22, 23, 24, 25, 26, 27, 28, 29, 30, 31, 32, 33, 34, 35, 36] (by decide +kernel) (by decide +kernel)) (goodIn_sub (fun _ h => List.mem_cons_of_mem _ (List.mem_append_left _ (List.mem_append_left _ (List.mem_append_right _ h)))) (by decide +kernel))) (goodIn_sub (fun _ h => List.mem_cons_of_mem _ (List.mem_append_left _ (List.mem_append_right _ h))) (by decide +kernel))) (goodIn_sub (fun _ h => List.mem_cons_of_mem _ (List.mem_append_right _ h)) (by decide +kernel))
set_option maxRecDepth 20000 in
theorem gL_writes_X0_setConsuls : GoodIn wsL_writes (wsV RL 19 RX0 yX0_setConsuls wsX0_setConsuls) := goodIn_app (goodIn_of _ (by decide +kernel)) ggL_writes_X0_setConsuls
theorem dL_writes_0 : decode cL_writes 0 = .ok (.aload_n 0, 1) := by decide +kernel
theorem dL_writes_1 : decode cL_writes 1 = .ok (.iload_n 1, 1) := by decide +kernel
theorem dL_writes_2 : decode cL_writes 2 = .ok (.iload_n 2, 1) := by decide +kernel
theorem dL_writes_3 : decode cL_writes 3 = .ok (.iload_n 3, 1) := by decide +kernel
theorem dL_writes_4 : decode cL_writes 4 = .ok (.invokevirtual 19, 3) := by decide +kernel
theorem dL_writes_7 : decode cL_writes 7 = .ok (.ireturn, 1) := by decide +kernel
theorem dL_writes_8 : decode cL_writes 8 = .ok (.astore 4, 2) := by decide +kernel
theorem dL_writes_10 : decode cL_writes 10 = .ok (.bipush (-2), 2) := by decide +kernel
theorem dL_writes_12 : decode cL_writes 12 = .ok (.ireturn, 1) := by decide +kernel
theorem dL_writes_13 : decode cL_writes 13 = .ok (.astore 4, 2) := by decide +kernel
theorem dL_writes_15 : decode cL_writes 15 = .ok (.bipush (-3), 2) := by decide +kernel
theorem dL_writes_17 : decode cL_writes 17 = .ok (.ireturn, 1) := by decide +kernel
set_option maxRecDepth 20000 in
theorem ggL_strikes_X0_strikeConsuls : GoodIn wsL_strikes wsX0_strikeConsuls := goodIn_ca (goodIn_ca (goodIn_r _ [6, 7, 8, 9, 10, 11, 5, 12, 13, 14, 15, 16, 17, 18, 19, 20, 21, 22, 23, 24, 25, 26, 27, 28, 29] (by decide +kernel) (by decide +kernel)) (goodIn_sub (fun _ h => List.mem_cons_of_mem _ (List.mem_append_left _ (List.mem_append_right _ h))) (by decide +kernel))) (goodIn_sub (fun _ h => List.mem_cons_of_mem _ (List.mem_append_right _ h)) (by decide +kernel))
set_option maxRecDepth 20000 in
theorem gL_strikes_X0_strikeConsuls : GoodIn wsL_strikes (wsV RL 25 RX0 yX0_strikeConsuls wsX0_strikeConsuls) := goodIn_app (goodIn_of _ (by decide +kernel)) ggL_strikes_X0_strikeConsuls
theorem dL_strikes_0 : decode cL_strikes 0 = .ok (.aload_n 0, 1) := by decide +kernel
theorem dL_strikes_1 : decode cL_strikes 1 = .ok (.iload_n 1, 1) := by decide +kernel
theorem dL_strikes_2 : decode cL_strikes 2 = .ok (.invokevirtual 25, 3) := by decide +kernel
theorem dL_strikes_5 : decode cL_strikes 5 = .ok (.ireturn, 1) := by decide +kernel
theorem dL_strikes_6 : decode cL_strikes 6 = .ok (.astore_n 2, 1) := by decide +kernel
theorem dL_strikes_7 : decode cL_strikes 7 = .ok (.bipush (-3), 2) := by decide +kernel
theorem dL_strikes_9 : decode cL_strikes 9 = .ok (.ireturn, 1) := by decide +kernel
set_option maxRecDepth 20000 in
theorem ggL_isBack_X0_yearOf : GoodIn wsL_isBack wsX0_yearOf := goodIn_ca (goodIn_r _ [5, 6, 7, 4, 8, 9, 10, 11, 12, 13, 14, 15, 16, 17, 18] (by decide +kernel) (by decide +kernel)) (goodIn_sub (fun _ h => List.mem_cons_of_mem _ (List.mem_append_left _ (List.mem_append_left _ (List.mem_append_right _ h)))) (by decide +kernel))
set_option maxRecDepth 20000 in
theorem gL_isBack_X0_yearOf : GoodIn wsL_isBack (wsV RL 29 RX0 yX0_yearOf wsX0_yearOf) := goodIn_app (goodIn_of _ (by decide +kernel)) ggL_isBack_X0_yearOf
set_option maxRecDepth 20000 in
theorem ggL_isBack_X0_monthOf : GoodIn wsL_isBack wsX0_monthOf := goodIn_ca (goodIn_r _ [22, 6, 7, 4, 8, 9, 10, 11, 23, 24, 25, 26, 27, 28, 29, 30, 31, 32, 33, 34, 35, 36, 37] (by decide +kernel) (by decide +kernel)) (goodIn_sub (fun _ h => List.mem_cons_of_mem _ (List.mem_append_left _ (List.mem_append_left _ (List.mem_append_right _ h)))) (by decide +kernel))
set_option maxRecDepth 20000 in
theorem gL_isBack_X0_monthOf : GoodIn wsL_isBack (wsV RL 32 RX0 yX0_monthOf wsX0_monthOf) := goodIn_app (goodIn_of _ (by decide +kernel)) ggL_isBack_X0_monthOf
set_option maxRecDepth 20000 in
theorem ggL_isBack_X0_dayOf : GoodIn wsL_isBack wsX0_dayOf := goodIn_ca (goodIn_r _ [41, 6, 7, 4, 8, 9, 10, 11, 12, 13, 14, 15, 16, 17, 18, 23, 24, 25, 26, 27, 28, 29, 30, 31, 32, 33, 34, 35, 36, 37, 42, 43, 44, 45, 46, 47, 48, 49, 50, 51, 52, 53] (by decide +kernel) (by decide +kernel)) (goodIn_sub (fun _ h => List.mem_cons_of_mem _ (List.mem_append_left _ (List.mem_append_left _ (List.mem_append_right _ h)))) (by decide +kernel))
set_option maxRecDepth 20000 in
theorem gL_isBack_X0_dayOf : GoodIn wsL_isBack (wsV RL 35 RX0 yX0_dayOf wsX0_dayOf) := goodIn_app (goodIn_of _ (by decide +kernel)) ggL_isBack_X0_dayOf
set_option maxRecDepth 20000 in
theorem ggL_isBack_X0_anchorOf : GoodIn wsL_isBack wsX0_anchorOf := goodIn_ca (goodIn_r _ [57, 6, 7, 4, 8, 9, 10, 11, 23, 24, 25, 26, 27, 28, 29, 30, 31, 58, 59, 60, 32, 33, 34, 35, 36, 37, 61, 62, 63, 51, 52, 53, 64, 65, 66, 67, 68, 69] (by decide +kernel) (by decide +kernel)) (goodIn_sub (fun _ h => List.mem_cons_of_mem _ (List.mem_append_left _ (List.mem_append_left _ (List.mem_append_right _ h)))) (by decide +kernel))
set_option maxRecDepth 20000 in
theorem gL_isBack_X0_anchorOf : GoodIn wsL_isBack (wsV RL 38 RX0 yX0_anchorOf wsX0_anchorOf) := goodIn_app (goodIn_of _ (by decide +kernel)) ggL_isBack_X0_anchorOf
set_option maxRecDepth 20000 in
theorem ggL_isBack_X0_placeOf : GoodIn wsL_isBack wsX0_placeOf := goodIn_ca (goodIn_r _ [73, 6, 7, 4, 8, 9, 10, 11, 23, 24, 25, 26, 27, 28, 29, 30, 31] (by decide +kernel) (by decide +kernel)) (goodIn_sub (fun _ h => List.mem_cons_of_mem _ (List.mem_append_left _ (List.mem_append_left _ (List.mem_append_right _ h)))) (by decide +kernel))
set_option maxRecDepth 20000 in
theorem gL_isBack_X0_placeOf : GoodIn wsL_isBack (wsV RL 41 RX0 yX0_placeOf wsX0_placeOf) := goodIn_app (goodIn_of _ (by decide +kernel)) ggL_isBack_X0_placeOf
set_option maxRecDepth 20000 in
theorem ggL_isBack_X0_number : GoodIn wsL_isBack wsX0_number := goodIn_ca (goodIn_r _ [77, 78, 79, 4, 80, 9, 10, 81, 82, 83, 84, 85, 86, 87, 88, 89, 48, 49, 50, 35, 36, 37, 42, 43, 44, 45, 46, 47, 51, 52, 53] (by decide +kernel) (by decide +kernel)) (goodIn_sub (fun _ h => List.mem_cons_of_mem _ (List.mem_append_left _ (List.mem_append_left _ (List.mem_append_right _ h)))) (by decide +kernel))
set_option maxRecDepth 20000 in
theorem gL_isBack_X0_number : GoodIn wsL_isBack (wsV RL 44 RX0 yX0_number wsX0_number) := goodIn_app (goodIn_of _ (by decide +kernel)) ggL_isBack_X0_number
set_option maxRecDepth 20000 in
theorem ggL_isBack_X0_numberByCounting : GoodIn wsL_isBack wsX0_numberByCounting := goodIn_ca (goodIn_r _ [93, 78, 79, 4, 80, 9, 10, 81, 82, 83, 84, 85, 86, 87, 88, 89, 48, 49, 50, 35, 36, 37, 42, 43, 44] (by decide +kernel) (by decide +kernel)) (goodIn_sub (fun _ h => List.mem_cons_of_mem _ (List.mem_append_left _ (List.mem_append_left _ (List.mem_append_right _ h)))) (by decide +kernel))
set_option maxRecDepth 20000 in
theorem gL_isBack_X0_numberByCounting : GoodIn wsL_isBack (wsV RL 47 RX0 yX0_numberByCounting wsX0_numberByCounting) := goodIn_app (goodIn_of _ (by decide +kernel)) ggL_isBack_X0_numberByCounting
set_option maxRecDepth 20000 in
theorem ggL_isBack_X0_anchorMonthOf : GoodIn wsL_isBack wsX0_anchorMonthOf := goodIn_ca (goodIn_r _ [97, 6, 7, 4, 8, 9, 10, 11, 23, 24, 25, 26, 27, 28, 29, 30, 31, 32, 33, 34, 35, 36, 37, 67, 68, 69, 61, 62, 63, 51, 52, 53, 64, 65, 66] (by decide +kernel) (by decide +kernel)) (goodIn_sub (fun _ h => List.mem_cons_of_mem _ (List.mem_append_left _ (List.mem_append_left _ (List.mem_append_right _ h)))) (by decide +kernel))
set_option maxRecDepth 20000 in
theorem gL_isBack_X0_anchorMonthOf : GoodIn wsL_isBack (wsV RL 50 RX0 yX0_anchorMonthOf wsX0_anchorMonthOf) := goodIn_app (goodIn_of _ (by decide +kernel)) ggL_isBack_X0_anchorMonthOf
set_option maxRecDepth 20000 in
theorem ggL_isBack_X0_countOf : GoodIn wsL_isBack wsX0_countOf := goodIn_ca (goodIn_r _ [101, 6, 7, 4, 8, 9, 10, 11, 23, 24, 25, 26, 27, 28, 29, 30, 31, 32, 33, 34, 35, 36, 37, 67, 68, 69, 61, 62, 63, 51, 52, 53, 64, 65, 66, 58, 59, 60] (by decide +kernel) (by decide +kernel)) (goodIn_sub (fun _ h => List.mem_cons_of_mem _ (List.mem_append_left _ (List.mem_append_left _ (List.mem_append_right _ h)))) (by decide +kernel))
set_option maxRecDepth 20000 in
theorem gL_isBack_X0_countOf : GoodIn wsL_isBack (wsV RL 53 RX0 yX0_countOf wsX0_countOf) := goodIn_app (goodIn_of _ (by decide +kernel)) ggL_isBack_X0_countOf
set_option maxRecDepth 20000 in
theorem ggL_isBack_X0_isDoubled : GoodIn wsL_isBack wsX0_isDoubled := goodIn_ca (goodIn_r _ [105, 6, 7, 4, 8, 9, 10, 11] (by decide +kernel) (by decide +kernel)) (goodIn_sub (fun _ h => List.mem_cons_of_mem _ (List.mem_append_left _ (List.mem_append_left _ (List.mem_append_right _ h)))) (by decide +kernel))
set_option maxRecDepth 20000 in
theorem gL_isBack_X0_isDoubled : GoodIn wsL_isBack (wsV RL 56 RX0 yX0_isDoubled wsX0_isDoubled) := goodIn_app (goodIn_of _ (by decide +kernel)) ggL_isBack_X0_isDoubled
set_option maxRecDepth 20000 in
theorem ggL_isBack_L_counted : GoodIn wsL_isBack wsL_counted := goodIn_ca (goodIn_ca (goodIn_ca (goodIn_r _ [109, 110, 111, 112, 113, 4, 114, 115, 116, 117, 118, 81, 82, 83, 9, 10, 84, 85, 86, 119, 120, 121, 122, 123, 124, 64, 65, 66, 35, 36, 37, 125, 126, 127, 48, 49, 50, 61, 62, 63, 51, 52, 53, 128, 129, 130, 42, 43, 44] (by decide +kernel) (by decide +kernel)) (goodIn_sub (fun _ h => List.mem_cons_of_mem _ (List.mem_append_left _ (List.mem_append_right _ h))) (by decide +kernel))) (goodIn_sub (fun _ h => List.mem_cons_of_mem _ (List.mem_append_right _ h)) (by decide +kernel))) (goodIn_sub (fun _ h => List.mem_cons_of_mem _ (List.mem_append_left _ (List.mem_append_left _ (List.mem_append_right _ h)))) (by decide +kernel))
set_option maxRecDepth 20000 in
theorem gL_isBack_L_counted : GoodIn wsL_isBack (va_wsS RL 60 yL_counted wsL_counted) := goodIn_app (goodIn_of _ (by decide +kernel)) ggL_isBack_L_counted
set_option maxRecDepth 20000 in
theorem ggL_isBack_X0_greatestCount : GoodIn wsL_isBack wsX0_greatestCount := goodIn_ca (goodIn_ca (goodIn_r _ [134, 81, 82, 4, 83, 9, 10, 84, 85, 86, 119, 120, 121, 115, 116, 122, 123, 124, 64, 65, 66, 35, 36, 37] (by decide +kernel) (by decide +kernel)) (goodIn_sub (fun _ h => List.mem_cons_of_mem _ (List.mem_append_left _ (List.mem_append_left _ (List.mem_append_right _ h)))) (by decide +kernel))) (goodIn_sub (fun _ h => List.mem_cons_of_mem _ (List.mem_append_left _ (List.mem_append_right _ h))) (by decide +kernel))
set_option maxRecDepth 20000 in
theorem gL_isBack_X0_greatestCount : GoodIn wsL_isBack (wsV RL 66 RX0 yX0_greatestCount wsX0_greatestCount) := goodIn_app (goodIn_of _ (by decide +kernel)) ggL_isBack_X0_greatestCount
set_option maxRecDepth 20000 in
theorem ggL_isBack_X0_letterOfEight : GoodIn wsL_isBack wsX0_letterOfEight := goodIn_ca (goodIn_r _ [138, 6, 7, 4, 8, 9, 10, 11, 139, 140, 141, 23, 24, 25, 26, 27, 28, 29, 30, 31] (by decide +kernel) (by decide +kernel)) (goodIn_sub (fun _ h => List.mem_cons_of_mem _ (List.mem_append_left _ (List.mem_append_left _ (List.mem_append_right _ h)))) (by decide +kernel))
set_option maxRecDepth 20000 in
theorem gL_isBack_X0_letterOfEight : GoodIn wsL_isBack (wsV RL 69 RX0 yX0_letterOfEight wsX0_letterOfEight) := goodIn_app (goodIn_of _ (by decide +kernel)) ggL_isBack_X0_letterOfEight
set_option maxRecDepth 20000 in
theorem ggL_isBack_X0_letterOfSeven : GoodIn wsL_isBack wsX0_letterOfSeven := goodIn_ca (goodIn_r _ [145, 6, 7, 4, 8, 9, 10, 11, 146, 147, 148, 23, 24, 25, 26, 27, 28, 29, 30, 31] (by decide +kernel) (by decide +kernel)) (goodIn_sub (fun _ h => List.mem_cons_of_mem _ (List.mem_append_left _ (List.mem_append_left _ (List.mem_append_right _ h)))) (by decide +kernel))
set_option maxRecDepth 20000 in
theorem gL_isBack_X0_letterOfSeven : GoodIn wsL_isBack (wsV RL 72 RX0 yX0_letterOfSeven wsX0_letterOfSeven) := goodIn_app (goodIn_of _ (by decide +kernel)) ggL_isBack_X0_letterOfSeven
set_option maxRecDepth 20000 in
theorem ggL_isBack_X0_lawNumber : GoodIn wsL_isBack wsX0_lawNumber := goodIn_ca (goodIn_r _ [152, 6, 7, 4, 8, 9, 10, 11, 26, 27, 28, 29, 30, 31] (by decide +kernel) (by decide +kernel)) (goodIn_sub (fun _ h => List.mem_cons_of_mem _ (List.mem_append_left _ (List.mem_append_left _ (List.mem_append_right _ h)))) (by decide +kernel))
set_option maxRecDepth 20000 in
theorem gL_isBack_X0_lawNumber : GoodIn wsL_isBack (wsV RL 75 RX0 yX0_lawNumber wsX0_lawNumber) := goodIn_app (goodIn_of _ (by decide +kernel)) ggL_isBack_X0_lawNumber
set_option maxRecDepth 20000 in
theorem ggL_isBack_X0_weekdayOf : GoodIn wsL_isBack wsX0_weekdayOf := goodIn_ca (goodIn_r _ [156, 6, 7, 4, 8, 9, 10, 11] (by decide +kernel) (by decide +kernel)) (goodIn_sub (fun _ h => List.mem_cons_of_mem _ (List.mem_append_left _ (List.mem_append_left _ (List.mem_append_right _ h)))) (by decide +kernel))
set_option maxRecDepth 20000 in
theorem gL_isBack_X0_weekdayOf : GoodIn wsL_isBack (wsV RL 78 RX0 yX0_weekdayOf wsX0_weekdayOf) := goodIn_app (goodIn_of _ (by decide +kernel)) ggL_isBack_X0_weekdayOf
set_option maxRecDepth 20000 in
theorem ggL_isBack_X0_lawDays : GoodIn wsL_isBack wsX0_lawDays := goodIn_ca (goodIn_r _ [160, 6, 7, 4, 8, 9, 10, 11, 26, 27, 28, 29, 30, 31] (by decide +kernel) (by decide +kernel)) (goodIn_sub (fun _ h => List.mem_cons_of_mem _ (List.mem_append_left _ (List.mem_append_left _ (List.mem_append_right _ h)))) (by decide +kernel))
set_option maxRecDepth 20000 in
theorem gL_isBack_X0_lawDays : GoodIn wsL_isBack (wsV RL 81 RX0 yX0_lawDays wsX0_lawDays) := goodIn_app (goodIn_of _ (by decide +kernel)) ggL_isBack_X0_lawDays
theorem dL_isBack_0 : decode cL_isBack 0 = .ok (.aload_n 0, 1) := by decide +kernel
theorem dL_isBack_1 : decode cL_isBack 1 = .ok (.iload_n 1, 1) := by decide +kernel
theorem dL_isBack_2 : decode cL_isBack 2 = .ok (.invokevirtual 29, 3) := by decide +kernel
theorem dL_isBack_5 : decode cL_isBack 5 = .ok (.istore_n 2, 1) := by decide +kernel
theorem dL_isBack_6 : decode cL_isBack 6 = .ok (.aload_n 0, 1) := by decide +kernel
theorem dL_isBack_7 : decode cL_isBack 7 = .ok (.iload_n 1, 1) := by decide +kernel
theorem dL_isBack_8 : decode cL_isBack 8 = .ok (.invokevirtual 32, 3) := by decide +kernel
theorem dL_isBack_11 : decode cL_isBack 11 = .ok (.istore_n 3, 1) := by decide +kernel
theorem dL_isBack_12 : decode cL_isBack 12 = .ok (.aload_n 0, 1) := by decide +kernel
theorem dL_isBack_13 : decode cL_isBack 13 = .ok (.iload_n 1, 1) := by decide +kernel
theorem dL_isBack_14 : decode cL_isBack 14 = .ok (.invokevirtual 35, 3) := by decide +kernel
theorem dL_isBack_17 : decode cL_isBack 17 = .ok (.istore 4, 2) := by decide +kernel
theorem dL_isBack_19 : decode cL_isBack 19 = .ok (.aload_n 0, 1) := by decide +kernel
theorem dL_isBack_20 : decode cL_isBack 20 = .ok (.iload_n 1, 1) := by decide +kernel
theorem dL_isBack_21 : decode cL_isBack 21 = .ok (.invokevirtual 38, 3) := by decide +kernel
theorem dL_isBack_24 : decode cL_isBack 24 = .ok (.istore 5, 2) := by decide +kernel
theorem dL_isBack_26 : decode cL_isBack 26 = .ok (.aload_n 0, 1) := by decide +kernel
theorem dL_isBack_27 : decode cL_isBack 27 = .ok (.iload_n 1, 1) := by decide +kernel
theorem dL_isBack_28 : decode cL_isBack 28 = .ok (.invokevirtual 41, 3) := by decide +kernel
theorem dL_isBack_31 : decode cL_isBack 31 = .ok (.istore 6, 2) := by decide +kernel
theorem dL_isBack_33 : decode cL_isBack 33 = .ok (.aload_n 0, 1) := by decide +kernel
theorem dL_isBack_34 : decode cL_isBack 34 = .ok (.iload_n 2, 1) := by decide +kernel
theorem dL_isBack_35 : decode cL_isBack 35 = .ok (.iload_n 3, 1) := by decide +kernel
theorem dL_isBack_36 : decode cL_isBack 36 = .ok (.iload 4, 2) := by decide +kernel
theorem dL_isBack_38 : decode cL_isBack 38 = .ok (.invokevirtual 44, 3) := by decide +kernel
theorem dL_isBack_41 : decode cL_isBack 41 = .ok (.iload_n 1, 1) := by decide +kernel
theorem dL_isBack_42 : decode cL_isBack 42 = .ok (.if_icmp .ne 74, 3) := by decide +kernel
theorem dL_isBack_45 : decode cL_isBack 45 = .ok (.aload_n 0, 1) := by decide +kernel
theorem dL_isBack_46 : decode cL_isBack 46 = .ok (.iload_n 2, 1) := by decide +kernel
theorem dL_isBack_47 : decode cL_isBack 47 = .ok (.iload_n 3, 1) := by decide +kernel
theorem dL_isBack_48 : decode cL_isBack 48 = .ok (.iload 4, 2) := by decide +kernel
theorem dL_isBack_50 : decode cL_isBack 50 = .ok (.invokevirtual 47, 3) := by decide +kernel
theorem dL_isBack_53 : decode cL_isBack 53 = .ok (.iload_n 1, 1) := by decide +kernel
theorem dL_isBack_54 : decode cL_isBack 54 = .ok (.if_icmp .ne 62, 3) := by decide +kernel
theorem dL_isBack_57 : decode cL_isBack 57 = .ok (.aload_n 0, 1) := by decide +kernel
theorem dL_isBack_58 : decode cL_isBack 58 = .ok (.iload_n 2, 1) := by decide +kernel
theorem dL_isBack_59 : decode cL_isBack 59 = .ok (.aload_n 0, 1) := by decide +kernel
theorem dL_isBack_60 : decode cL_isBack 60 = .ok (.iload_n 1, 1) := by decide +kernel
theorem dL_isBack_61 : decode cL_isBack 61 = .ok (.invokevirtual 50, 3) := by decide +kernel
theorem dL_isBack_64 : decode cL_isBack 64 = .ok (.iload 5, 2) := by decide +kernel
theorem dL_isBack_66 : decode cL_isBack 66 = .ok (.aload_n 0, 1) := by decide +kernel
theorem dL_isBack_67 : decode cL_isBack 67 = .ok (.iload_n 1, 1) := by decide +kernel
theorem dL_isBack_68 : decode cL_isBack 68 = .ok (.invokevirtual 53, 3) := by decide +kernel
theorem dL_isBack_71 : decode cL_isBack 71 = .ok (.aload_n 0, 1) := by decide +kernel
theorem dL_isBack_72 : decode cL_isBack 72 = .ok (.iload_n 1, 1) := by decide +kernel
theorem dL_isBack_73 : decode cL_isBack 73 = .ok (.invokevirtual 56, 3) := by decide +kernel
theorem dL_isBack_76 : decode cL_isBack 76 = .ok (.invokestatic 60, 3) := by decide +kernel
theorem dL_isBack_79 : decode cL_isBack 79 = .ok (.iload_n 1, 1) := by decide +kernel
theorem dL_isBack_80 : decode cL_isBack 80 = .ok (.if_icmp .ne 36, 3) := by decide +kernel
theorem dL_isBack_83 : decode cL_isBack 83 = .ok (.aload_n 0, 1) := by decide +kernel
theorem dL_isBack_84 : decode cL_isBack 84 = .ok (.iload_n 1, 1) := by decide +kernel
theorem dL_isBack_85 : decode cL_isBack 85 = .ok (.invokevirtual 53, 3) := by decide +kernel
theorem dL_isBack_88 : decode cL_isBack 88 = .ok (.iconst 1, 1) := by decide +kernel
theorem dL_isBack_89 : decode cL_isBack 89 = .ok (.if_icmp .lt 27, 3) := by decide +kernel
theorem dL_isBack_92 : decode cL_isBack 92 = .ok (.aload_n 0, 1) := by decide +kernel
theorem dL_isBack_93 : decode cL_isBack 93 = .ok (.iload_n 1, 1) := by decide +kernel
theorem dL_isBack_94 : decode cL_isBack 94 = .ok (.invokevirtual 53, 3) := by decide +kernel
theorem dL_isBack_97 : decode cL_isBack 97 = .ok (.aload_n 0, 1) := by decide +kernel
theorem dL_isBack_98 : decode cL_isBack 98 = .ok (.iload_n 2, 1) := by decide +kernel
theorem dL_isBack_99 : decode cL_isBack 99 = .ok (.aload_n 0, 1) := by decide +kernel
theorem dL_isBack_100 : decode cL_isBack 100 = .ok (.iload_n 1, 1) := by decide +kernel
theorem dL_isBack_101 : decode cL_isBack 101 = .ok (.invokevirtual 50, 3) := by decide +kernel
theorem dL_isBack_104 : decode cL_isBack 104 = .ok (.iload 5, 2) := by decide +kernel
theorem dL_isBack_106 : decode cL_isBack 106 = .ok (.invokevirtual 66, 3) := by decide +kernel
theorem dL_isBack_109 : decode cL_isBack 109 = .ok (.if_icmp .gt 7, 3) := by decide +kernel
theorem dL_isBack_112 : decode cL_isBack 112 = .ok (.iconst 1, 1) := by decide +kernel
theorem dL_isBack_113 : decode cL_isBack 113 = .ok (.goto 4, 3) := by decide +kernel
theorem dL_isBack_116 : decode cL_isBack 116 = .ok (.iconst 0, 1) := by decide +kernel
theorem dL_isBack_117 : decode cL_isBack 117 = .ok (.istore 7, 2) := by decide +kernel
theorem dL_isBack_119 : decode cL_isBack 119 = .ok (.iload 7, 2) := by decide +kernel
theorem dL_isBack_121 : decode cL_isBack 121 = .ok (.ifCond .eq 56, 3) := by decide +kernel
theorem dL_isBack_124 : decode cL_isBack 124 = .ok (.aload_n 0, 1) := by decide +kernel
theorem dL_isBack_125 : decode cL_isBack 125 = .ok (.iload_n 1, 1) := by decide +kernel
theorem dL_isBack_126 : decode cL_isBack 126 = .ok (.invokevirtual 50, 3) := by decide +kernel
theorem dL_isBack_129 : decode cL_isBack 129 = .ok (.iload_n 3, 1) := by decide +kernel
theorem dL_isBack_130 : decode cL_isBack 130 = .ok (.if_icmp .ne 17, 3) := by decide +kernel
theorem dL_isBack_133 : decode cL_isBack 133 = .ok (.iload 5, 2) := by decide +kernel
theorem dL_isBack_135 : decode cL_isBack 135 = .ok (.ifCond .ne 38, 3) := by decide +kernel
theorem dL_isBack_138 : decode cL_isBack 138 = .ok (.iload 4, 2) := by decide +kernel
theorem dL_isBack_140 : decode cL_isBack 140 = .ok (.iconst 1, 1) := by decide +kernel
theorem dL_isBack_141 : decode cL_isBack 141 = .ok (.if_icmp .ne 36, 3) := by decide +kernel
theorem dL_isBack_144 : decode cL_isBack 144 = .ok (.goto 29, 3) := by decide +kernel
theorem dL_isBack_147 : decode cL_isBack 147 = .ok (.iload 5, 2) := by decide +kernel
theorem dL_isBack_149 : decode cL_isBack 149 = .ok (.ifCond .ne 28, 3) := by decide +kernel
theorem dL_isBack_152 : decode cL_isBack 152 = .ok (.aload_n 0, 1) := by decide +kernel
theorem dL_isBack_153 : decode cL_isBack 153 = .ok (.iload_n 1, 1) := by decide +kernel
theorem dL_isBack_154 : decode cL_isBack 154 = .ok (.invokevirtual 50, 3) := by decide +kernel
theorem dL_isBack_157 : decode cL_isBack 157 = .ok (.iload_n 3, 1) := by decide +kernel
theorem dL_isBack_158 : decode cL_isBack 158 = .ok (.bipush 12, 2) := by decide +kernel
theorem dL_isBack_160 : decode cL_isBack 160 = .ok (.irem, 1) := by decide +kernel
theorem dL_isBack_161 : decode cL_isBack 161 = .ok (.iconst 1, 1) := by decide +kernel
theorem dL_isBack_162 : decode cL_isBack 162 = .ok (.iadd, 1) := by decide +kernel
theorem dL_isBack_163 : decode cL_isBack 163 = .ok (.if_icmp .ne 14, 3) := by decide +kernel
theorem dL_isBack_166 : decode cL_isBack 166 = .ok (.iload 4, 2) := by decide +kernel
theorem dL_isBack_168 : decode cL_isBack 168 = .ok (.bipush 13, 2) := by decide +kernel
theorem dL_isBack_170 : decode cL_isBack 170 = .ok (.if_icmp .le 7, 3) := by decide +kernel
theorem dL_isBack_173 : decode cL_isBack 173 = .ok (.iconst 1, 1) := by decide +kernel
theorem dL_isBack_174 : decode cL_isBack 174 = .ok (.goto 4, 3) := by decide +kernel
theorem dL_isBack_177 : decode cL_isBack 177 = .ok (.iconst 0, 1) := by decide +kernel
theorem dL_isBack_178 : decode cL_isBack 178 = .ok (.istore 7, 2) := by decide +kernel
theorem dL_isBack_180 : decode cL_isBack 180 = .ok (.iload 7, 2) := by decide +kernel
theorem dL_isBack_182 : decode cL_isBack 182 = .ok (.ifCond .eq 86, 3) := by decide +kernel
theorem dL_isBack_185 : decode cL_isBack 185 = .ok (.iload 6, 2) := by decide +kernel
theorem dL_isBack_187 : decode cL_isBack 187 = .ok (.iconst 1, 1) := by decide +kernel
theorem dL_isBack_188 : decode cL_isBack 188 = .ok (.if_icmp .lt 80, 3) := by decide +kernel
theorem dL_isBack_191 : decode cL_isBack 191 = .ok (.iload 6, 2) := by decide +kernel
theorem dL_isBack_193 : decode cL_isBack 193 = .ok (.sipush 365, 3) := by decide +kernel
theorem dL_isBack_196 : decode cL_isBack 196 = .ok (.if_icmp .gt 72, 3) := by decide +kernel
theorem dL_isBack_199 : decode cL_isBack 199 = .ok (.aload_n 0, 1) := by decide +kernel
theorem dL_isBack_200 : decode cL_isBack 200 = .ok (.iload_n 1, 1) := by decide +kernel
theorem dL_isBack_201 : decode cL_isBack 201 = .ok (.invokevirtual 69, 3) := by decide +kernel
theorem dL_isBack_204 : decode cL_isBack 204 = .ok (.iload 6, 2) := by decide +kernel
theorem dL_isBack_206 : decode cL_isBack 206 = .ok (.iconst 1, 1) := by decide +kernel
theorem dL_isBack_207 : decode cL_isBack 207 = .ok (.isub, 1) := by decide +kernel
theorem dL_isBack_208 : decode cL_isBack 208 = .ok (.bipush 8, 2) := by decide +kernel
theorem dL_isBack_210 : decode cL_isBack 210 = .ok (.irem, 1) := by decide +kernel
theorem dL_isBack_211 : decode cL_isBack 211 = .ok (.if_icmp .ne 57, 3) := by decide +kernel
theorem dL_isBack_214 : decode cL_isBack 214 = .ok (.aload_n 0, 1) := by decide +kernel
theorem dL_isBack_215 : decode cL_isBack 215 = .ok (.iload_n 1, 1) := by decide +kernel
theorem dL_isBack_216 : decode cL_isBack 216 = .ok (.invokevirtual 72, 3) := by decide +kernel
theorem dL_isBack_219 : decode cL_isBack 219 = .ok (.iload 6, 2) := by decide +kernel
theorem dL_isBack_221 : decode cL_isBack 221 = .ok (.iconst 1, 1) := by decide +kernel
theorem dL_isBack_222 : decode cL_isBack 222 = .ok (.isub, 1) := by decide +kernel
theorem dL_isBack_223 : decode cL_isBack 223 = .ok (.bipush 7, 2) := by decide +kernel
theorem dL_isBack_225 : decode cL_isBack 225 = .ok (.irem, 1) := by decide +kernel
theorem dL_isBack_226 : decode cL_isBack 226 = .ok (.if_icmp .ne 42, 3) := by decide +kernel
theorem dL_isBack_229 : decode cL_isBack 229 = .ok (.aload_n 0, 1) := by decide +kernel
theorem dL_isBack_230 : decode cL_isBack 230 = .ok (.iload_n 1, 1) := by decide +kernel
theorem dL_isBack_231 : decode cL_isBack 231 = .ok (.invokevirtual 75, 3) := by decide +kernel
theorem dL_isBack_234 : decode cL_isBack 234 = .ok (.sipush 365, 3) := by decide +kernel
theorem dL_isBack_237 : decode cL_isBack 237 = .ok (.iload_n 2, 1) := by decide +kernel
theorem dL_isBack_238 : decode cL_isBack 238 = .ok (.iconst 1, 1) := by decide +kernel
theorem dL_isBack_239 : decode cL_isBack 239 = .ok (.isub, 1) := by decide +kernel
theorem dL_isBack_240 : decode cL_isBack 240 = .ok (.imul, 1) := by decide +kernel
theorem dL_isBack_241 : decode cL_isBack 241 = .ok (.iload 6, 2) := by decide +kernel
theorem dL_isBack_243 : decode cL_isBack 243 = .ok (.iadd, 1) := by decide +kernel
theorem dL_isBack_244 : decode cL_isBack 244 = .ok (.iconst 1, 1) := by decide +kernel
theorem dL_isBack_245 : decode cL_isBack 245 = .ok (.isub, 1) := by decide +kernel
theorem dL_isBack_246 : decode cL_isBack 246 = .ok (.if_icmp .ne 22, 3) := by decide +kernel
theorem dL_isBack_249 : decode cL_isBack 249 = .ok (.aload_n 0, 1) := by decide +kernel
theorem dL_isBack_250 : decode cL_isBack 250 = .ok (.iload_n 1, 1) := by decide +kernel
theorem dL_isBack_251 : decode cL_isBack 251 = .ok (.invokevirtual 78, 3) := by decide +kernel
theorem dL_isBack_254 : decode cL_isBack 254 = .ok (.iload_n 1, 1) := by decide +kernel
theorem dL_isBack_255 : decode cL_isBack 255 = .ok (.bipush 6, 2) := by decide +kernel
theorem dL_isBack_257 : decode cL_isBack 257 = .ok (.iadd, 1) := by decide +kernel
theorem dL_isBack_258 : decode cL_isBack 258 = .ok (.bipush 7, 2) := by decide +kernel
theorem dL_isBack_260 : decode cL_isBack 260 = .ok (.irem, 1) := by decide +kernel
theorem dL_isBack_261 : decode cL_isBack 261 = .ok (.if_icmp .ne 7, 3) := by decide +kernel
theorem dL_isBack_264 : decode cL_isBack 264 = .ok (.iconst 1, 1) := by decide +kernel
theorem dL_isBack_265 : decode cL_isBack 265 = .ok (.goto 4, 3) := by decide +kernel
theorem dL_isBack_268 : decode cL_isBack 268 = .ok (.iconst 0, 1) := by decide +kernel
theorem dL_isBack_269 : decode cL_isBack 269 = .ok (.istore 7, 2) := by decide +kernel
theorem dL_isBack_271 : decode cL_isBack 271 = .ok (.iload 7, 2) := by decide +kernel
theorem dL_isBack_273 : decode cL_isBack 273 = .ok (.ifCond .eq 88, 3) := by decide +kernel
theorem dL_isBack_276 : decode cL_isBack 276 = .ok (.aload_n 0, 1) := by decide +kernel
theorem dL_isBack_277 : decode cL_isBack 277 = .ok (.iload_n 1, 1) := by decide +kernel
theorem dL_isBack_278 : decode cL_isBack 278 = .ok (.invokevirtual 56, 3) := by decide +kernel
theorem dL_isBack_281 : decode cL_isBack 281 = .ok (.iload_n 2, 1) := by decide +kernel
theorem dL_isBack_282 : decode cL_isBack 282 = .ok (.iconst 4, 1) := by decide +kernel
theorem dL_isBack_283 : decode cL_isBack 283 = .ok (.irem, 1) := by decide +kernel
theorem dL_isBack_284 : decode cL_isBack 284 = .ok (.ifCond .ne 19, 3) := by decide +kernel
theorem dL_isBack_287 : decode cL_isBack 287 = .ok (.iload_n 3, 1) := by decide +kernel
theorem dL_isBack_288 : decode cL_isBack 288 = .ok (.iconst 2, 1) := by decide +kernel
theorem dL_isBack_289 : decode cL_isBack 289 = .ok (.if_icmp .ne 14, 3) := by decide +kernel
theorem dL_isBack_292 : decode cL_isBack 292 = .ok (.iload 4, 2) := by decide +kernel
theorem dL_isBack_294 : decode cL_isBack 294 = .ok (.bipush 24, 2) := by decide +kernel
theorem dL_isBack_296 : decode cL_isBack 296 = .ok (.if_icmp .ne 7, 3) := by decide +kernel
theorem dL_isBack_299 : decode cL_isBack 299 = .ok (.iconst 1, 1) := by decide +kernel
theorem dL_isBack_300 : decode cL_isBack 300 = .ok (.goto 4, 3) := by decide +kernel
theorem dL_isBack_303 : decode cL_isBack 303 = .ok (.iconst 0, 1) := by decide +kernel
theorem dL_isBack_304 : decode cL_isBack 304 = .ok (.if_icmp .ne 57, 3) := by decide +kernel
theorem dL_isBack_307 : decode cL_isBack 307 = .ok (.aload_n 0, 1) := by decide +kernel
theorem dL_isBack_308 : decode cL_isBack 308 = .ok (.iload_n 1, 1) := by decide +kernel
theorem dL_isBack_309 : decode cL_isBack 309 = .ok (.invokevirtual 56, 3) := by decide +kernel
theorem dL_isBack_312 : decode cL_isBack 312 = .ok (.ifCond .eq 18, 3) := by decide +kernel
theorem dL_isBack_315 : decode cL_isBack 315 = .ok (.iload_n 1, 1) := by decide +kernel
theorem dL_isBack_316 : decode cL_isBack 316 = .ok (.aload_n 0, 1) := by decide +kernel
theorem dL_isBack_317 : decode cL_isBack 317 = .ok (.iload_n 1, 1) := by decide +kernel
theorem dL_isBack_318 : decode cL_isBack 318 = .ok (.invokevirtual 75, 3) := by decide +kernel
theorem dL_isBack_321 : decode cL_isBack 321 = .ok (.isub, 1) := by decide +kernel
theorem dL_isBack_322 : decode cL_isBack 322 = .ok (.iload_n 2, 1) := by decide +kernel
theorem dL_isBack_323 : decode cL_isBack 323 = .ok (.iconst 4, 1) := by decide +kernel
theorem dL_isBack_324 : decode cL_isBack 324 = .ok (.idiv, 1) := by decide +kernel
theorem dL_isBack_325 : decode cL_isBack 325 = .ok (.iconst 1, 1) := by decide +kernel
theorem dL_isBack_326 : decode cL_isBack 326 = .ok (.isub, 1) := by decide +kernel
theorem dL_isBack_327 : decode cL_isBack 327 = .ok (.if_icmp .ne 34, 3) := by decide +kernel
theorem dL_isBack_330 : decode cL_isBack 330 = .ok (.iload_n 3, 1) := by decide +kernel
theorem dL_isBack_331 : decode cL_isBack 331 = .ok (.iconst 3, 1) := by decide +kernel
theorem dL_isBack_332 : decode cL_isBack 332 = .ok (.if_icmp .lt 16, 3) := by decide +kernel
theorem dL_isBack_335 : decode cL_isBack 335 = .ok (.iload_n 1, 1) := by decide +kernel
theorem dL_isBack_336 : decode cL_isBack 336 = .ok (.aload_n 0, 1) := by decide +kernel
theorem dL_isBack_337 : decode cL_isBack 337 = .ok (.iload_n 1, 1) := by decide +kernel
theorem dL_isBack_338 : decode cL_isBack 338 = .ok (.invokevirtual 75, 3) := by decide +kernel
theorem dL_isBack_341 : decode cL_isBack 341 = .ok (.isub, 1) := by decide +kernel
theorem dL_isBack_342 : decode cL_isBack 342 = .ok (.iload_n 2, 1) := by decide +kernel
theorem dL_isBack_343 : decode cL_isBack 343 = .ok (.iconst 4, 1) := by decide +kernel
theorem dL_isBack_344 : decode cL_isBack 344 = .ok (.idiv, 1) := by decide +kernel
theorem dL_isBack_345 : decode cL_isBack 345 = .ok (.if_icmp .ne 16, 3) := by decide +kernel
theorem dL_isBack_348 : decode cL_isBack 348 = .ok (.aload_n 0, 1) := by decide +kernel
theorem dL_isBack_349 : decode cL_isBack 349 = .ok (.iload_n 1, 1) := by decide +kernel
theorem dL_isBack_350 : decode cL_isBack 350 = .ok (.iload_n 1, 1) := by decide +kernel
theorem dL_isBack_351 : decode cL_isBack 351 = .ok (.invokevirtual 81, 3) := by decide +kernel
theorem dL_isBack_354 : decode cL_isBack 354 = .ok (.ifCond .ne 7, 3) := by decide +kernel
theorem dL_isBack_357 : decode cL_isBack 357 = .ok (.iconst 1, 1) := by decide +kernel
theorem dL_isBack_358 : decode cL_isBack 358 = .ok (.goto 4, 3) := by decide +kernel
theorem dL_isBack_361 : decode cL_isBack 361 = .ok (.iconst 0, 1) := by decide +kernel
theorem dL_isBack_362 : decode cL_isBack 362 = .ok (.ireturn, 1) := by decide +kernel
set_option maxRecDepth 20000 in
theorem ggL_isNext_X0_isDoubled : GoodIn wsL_isNext wsX0_isDoubled := goodIn_ca (goodIn_r _ [5, 6, 7, 4, 8, 9, 10, 11] (by decide +kernel) (by decide +kernel)) (goodIn_sub (fun _ h => List.mem_cons_of_mem _ (List.mem_append_right _ h)) (by decide +kernel))
set_option maxRecDepth 20000 in
theorem gL_isNext_X0_isDoubled : GoodIn wsL_isNext (wsV RL 56 RX0 yX0_isDoubled wsX0_isDoubled) := goodIn_app (goodIn_of _ (by decide +kernel)) ggL_isNext_X0_isDoubled
set_option maxRecDepth 20000 in
theorem ggL_isNext_X0_yearOf : GoodIn wsL_isNext wsX0_yearOf := goodIn_ca (goodIn_r _ [15, 6, 7, 4, 8, 9, 10, 11, 16, 17, 18, 19, 20, 21, 22] (by decide +kernel) (by decide +kernel)) (goodIn_sub (fun _ h => List.mem_cons_of_mem _ (List.mem_append_right _ h)) (by decide +kernel))
set_option maxRecDepth 20000 in
theorem gL_isNext_X0_yearOf : GoodIn wsL_isNext (wsV RL 29 RX0 yX0_yearOf wsX0_yearOf) := goodIn_app (goodIn_of _ (by decide +kernel)) ggL_isNext_X0_yearOf
set_option maxRecDepth 20000 in
theorem ggL_isNext_X0_weekdayOf : GoodIn wsL_isNext wsX0_weekdayOf := goodIn_ca (goodIn_r _ [26, 6, 7, 4, 8, 9, 10, 11] (by decide +kernel) (by decide +kernel)) (goodIn_sub (fun _ h => List.mem_cons_of_mem _ (List.mem_append_right _ h)) (by decide +kernel))
set_option maxRecDepth 20000 in
theorem gL_isNext_X0_weekdayOf : GoodIn wsL_isNext (wsV RL 78 RX0 yX0_weekdayOf wsX0_weekdayOf) := goodIn_app (goodIn_of _ (by decide +kernel)) ggL_isNext_X0_weekdayOf
set_option maxRecDepth 20000 in
theorem ggL_isNext_X0_lawDays : GoodIn wsL_isNext wsX0_lawDays := goodIn_ca (goodIn_r _ [30, 6, 7, 4, 8, 9, 10, 11, 31, 32, 33, 34, 35, 36] (by decide +kernel) (by decide +kernel)) (goodIn_sub (fun _ h => List.mem_cons_of_mem _ (List.mem_append_right _ h)) (by decide +kernel))
set_option maxRecDepth 20000 in
theorem gL_isNext_X0_lawDays : GoodIn wsL_isNext (wsV RL 81 RX0 yX0_lawDays wsX0_lawDays) := goodIn_app (goodIn_of _ (by decide +kernel)) ggL_isNext_X0_lawDays
set_option maxRecDepth 20000 in
theorem ggL_isNext_X0_placeOf : GoodIn wsL_isNext wsX0_placeOf := goodIn_ca (goodIn_r _ [40, 6, 7, 4, 8, 9, 10, 11, 41, 42, 43, 31, 32, 33, 34, 35, 36] (by decide +kernel) (by decide +kernel)) (goodIn_sub (fun _ h => List.mem_cons_of_mem _ (List.mem_append_right _ h)) (by decide +kernel))
set_option maxRecDepth 20000 in
theorem gL_isNext_X0_placeOf : GoodIn wsL_isNext (wsV RL 41 RX0 yX0_placeOf wsX0_placeOf) := goodIn_app (goodIn_of _ (by decide +kernel)) ggL_isNext_X0_placeOf
set_option maxRecDepth 20000 in
theorem ggL_isNext_X0_dayOf : GoodIn wsL_isNext wsX0_dayOf := goodIn_ca (goodIn_r _ [47, 6, 7, 4, 8, 9, 10, 11, 16, 17, 18, 19, 20, 21, 22, 41, 42, 43, 31, 32, 33, 34, 35, 36, 48, 49, 50, 51, 52, 53, 54, 55, 56, 57, 58, 59, 60, 61, 62, 63, 64, 65] (by decide +kernel) (by decide +kernel)) (goodIn_sub (fun _ h => List.mem_cons_of_mem _ (List.mem_append_right _ h)) (by decide +kernel))
set_option maxRecDepth 20000 in
theorem gL_isNext_X0_dayOf : GoodIn wsL_isNext (wsV RL 35 RX0 yX0_dayOf wsX0_dayOf) := goodIn_app (goodIn_of _ (by decide +kernel)) ggL_isNext_X0_dayOf
set_option maxRecDepth 20000 in
theorem ggL_isNext_X0_monthOf : GoodIn wsL_isNext wsX0_monthOf := goodIn_ca (goodIn_r _ [69, 6, 7, 4, 8, 9, 10, 11, 41, 42, 43, 31, 32, 33, 34, 35, 36, 48, 49, 50, 51, 52, 53] (by decide +kernel) (by decide +kernel)) (goodIn_sub (fun _ h => List.mem_cons_of_mem _ (List.mem_append_right _ h)) (by decide +kernel))
set_option maxRecDepth 20000 in
theorem gL_isNext_X0_monthOf : GoodIn wsL_isNext (wsV RL 32 RX0 yX0_monthOf wsX0_monthOf) := goodIn_app (goodIn_of _ (by decide +kernel)) ggL_isNext_X0_monthOf
set_option maxRecDepth 20000 in
theorem ggL_isNext_X0_countOf : GoodIn wsL_isNext wsX0_countOf := goodIn_ca (goodIn_r _ [73, 6, 7, 4, 8, 9, 10, 11, 41, 42, 43, 31, 32, 33, 34, 35, 36, 48, 49, 50, 51, 52, 53, 74, 75, 76, 77, 78, 79, 63, 64, 65, 80, 81, 82, 83, 84, 85] (by decide +kernel) (by decide +kernel)) (goodIn_sub (fun _ h => List.mem_cons_of_mem _ (List.mem_append_right _ h)) (by decide +kernel))
set_option maxRecDepth 20000 in
theorem gL_isNext_X0_countOf : GoodIn wsL_isNext (wsV RL 53 RX0 yX0_countOf wsX0_countOf) := goodIn_app (goodIn_of _ (by decide +kernel)) ggL_isNext_X0_countOf
set_option maxRecDepth 20000 in
theorem ggL_isNext_X0_isMarket : GoodIn wsL_isNext wsX0_isMarket := goodIn_ca (goodIn_r _ [89, 6, 7, 4, 8, 9, 10, 11, 90, 91, 92, 93, 94, 95, 96, 97, 98] (by decide +kernel) (by decide +kernel)) (goodIn_sub (fun _ h => List.mem_cons_of_mem _ (List.mem_append_right _ h)) (by decide +kernel))
set_option maxRecDepth 20000 in
theorem gL_isNext_X0_isMarket : GoodIn wsL_isNext (wsV RL 84 RX0 yX0_isMarket wsX0_isMarket) := goodIn_app (goodIn_of _ (by decide +kernel)) ggL_isNext_X0_isMarket
theorem dL_isNext_0 : decode cL_isNext 0 = .ok (.aload_n 0, 1) := by decide +kernel
theorem dL_isNext_1 : decode cL_isNext 1 = .ok (.iload_n 1, 1) := by decide +kernel
theorem dL_isNext_2 : decode cL_isNext 2 = .ok (.invokevirtual 56, 3) := by decide +kernel
theorem dL_isNext_5 : decode cL_isNext 5 = .ok (.istore_n 2, 1) := by decide +kernel
theorem dL_isNext_6 : decode cL_isNext 6 = .ok (.aload_n 0, 1) := by decide +kernel
theorem dL_isNext_7 : decode cL_isNext 7 = .ok (.iload_n 1, 1) := by decide +kernel
theorem dL_isNext_8 : decode cL_isNext 8 = .ok (.iconst 1, 1) := by decide +kernel
theorem dL_isNext_9 : decode cL_isNext 9 = .ok (.iadd, 1) := by decide +kernel
theorem dL_isNext_10 : decode cL_isNext 10 = .ok (.invokevirtual 29, 3) := by decide +kernel
theorem dL_isNext_13 : decode cL_isNext 13 = .ok (.aload_n 0, 1) := by decide +kernel
theorem dL_isNext_14 : decode cL_isNext 14 = .ok (.iload_n 1, 1) := by decide +kernel
theorem dL_isNext_15 : decode cL_isNext 15 = .ok (.invokevirtual 29, 3) := by decide +kernel
theorem dL_isNext_18 : decode cL_isNext 18 = .ok (.if_icmp .eq 7, 3) := by decide +kernel
theorem dL_isNext_21 : decode cL_isNext 21 = .ok (.iconst 1, 1) := by decide +kernel
theorem dL_isNext_22 : decode cL_isNext 22 = .ok (.goto 4, 3) := by decide +kernel
theorem dL_isNext_25 : decode cL_isNext 25 = .ok (.iconst 0, 1) := by decide +kernel
theorem dL_isNext_26 : decode cL_isNext 26 = .ok (.istore_n 3, 1) := by decide +kernel
theorem dL_isNext_27 : decode cL_isNext 27 = .ok (.aload_n 0, 1) := by decide +kernel
theorem dL_isNext_28 : decode cL_isNext 28 = .ok (.iload_n 1, 1) := by decide +kernel
theorem dL_isNext_29 : decode cL_isNext 29 = .ok (.iconst 1, 1) := by decide +kernel
theorem dL_isNext_30 : decode cL_isNext 30 = .ok (.iadd, 1) := by decide +kernel
theorem dL_isNext_31 : decode cL_isNext 31 = .ok (.invokevirtual 78, 3) := by decide +kernel
theorem dL_isNext_34 : decode cL_isNext 34 = .ok (.aload_n 0, 1) := by decide +kernel
theorem dL_isNext_35 : decode cL_isNext 35 = .ok (.iload_n 1, 1) := by decide +kernel
theorem dL_isNext_36 : decode cL_isNext 36 = .ok (.invokevirtual 78, 3) := by decide +kernel
theorem dL_isNext_39 : decode cL_isNext 39 = .ok (.iconst 1, 1) := by decide +kernel
theorem dL_isNext_40 : decode cL_isNext 40 = .ok (.iadd, 1) := by decide +kernel
theorem dL_isNext_41 : decode cL_isNext 41 = .ok (.bipush 7, 2) := by decide +kernel
theorem dL_isNext_43 : decode cL_isNext 43 = .ok (.irem, 1) := by decide +kernel
theorem dL_isNext_44 : decode cL_isNext 44 = .ok (.if_icmp .ne 108, 3) := by decide +kernel
theorem dL_isNext_47 : decode cL_isNext 47 = .ok (.aload_n 0, 1) := by decide +kernel
theorem dL_isNext_48 : decode cL_isNext 48 = .ok (.iload_n 1, 1) := by decide +kernel
theorem dL_isNext_49 : decode cL_isNext 49 = .ok (.iload_n 1, 1) := by decide +kernel
theorem dL_isNext_50 : decode cL_isNext 50 = .ok (.iconst 1, 1) := by decide +kernel
theorem dL_isNext_51 : decode cL_isNext 51 = .ok (.iadd, 1) := by decide +kernel
theorem dL_isNext_52 : decode cL_isNext 52 = .ok (.invokevirtual 81, 3) := by decide +kernel
theorem dL_isNext_55 : decode cL_isNext 55 = .ok (.iload_n 2, 1) := by decide +kernel
theorem dL_isNext_56 : decode cL_isNext 56 = .ok (.ifCond .eq 7, 3) := by decide +kernel
theorem dL_isNext_59 : decode cL_isNext 59 = .ok (.iconst 0, 1) := by decide +kernel
theorem dL_isNext_60 : decode cL_isNext 60 = .ok (.goto 4, 3) := by decide +kernel
theorem dL_isNext_63 : decode cL_isNext 63 = .ok (.iconst 1, 1) := by decide +kernel
theorem dL_isNext_64 : decode cL_isNext 64 = .ok (.if_icmp .ne 88, 3) := by decide +kernel
theorem dL_isNext_67 : decode cL_isNext 67 = .ok (.iload_n 3, 1) := by decide +kernel
theorem dL_isNext_68 : decode cL_isNext 68 = .ok (.ifCond .eq 55, 3) := by decide +kernel
theorem dL_isNext_71 : decode cL_isNext 71 = .ok (.aload_n 0, 1) := by decide +kernel
theorem dL_isNext_72 : decode cL_isNext 72 = .ok (.iload_n 1, 1) := by decide +kernel
theorem dL_isNext_73 : decode cL_isNext 73 = .ok (.iconst 1, 1) := by decide +kernel
theorem dL_isNext_74 : decode cL_isNext 74 = .ok (.iadd, 1) := by decide +kernel
theorem dL_isNext_75 : decode cL_isNext 75 = .ok (.invokevirtual 29, 3) := by decide +kernel
theorem dL_isNext_78 : decode cL_isNext 78 = .ok (.aload_n 0, 1) := by decide +kernel
theorem dL_isNext_79 : decode cL_isNext 79 = .ok (.iload_n 1, 1) := by decide +kernel
theorem dL_isNext_80 : decode cL_isNext 80 = .ok (.invokevirtual 29, 3) := by decide +kernel
theorem dL_isNext_83 : decode cL_isNext 83 = .ok (.iconst 1, 1) := by decide +kernel
theorem dL_isNext_84 : decode cL_isNext 84 = .ok (.iadd, 1) := by decide +kernel
theorem dL_isNext_85 : decode cL_isNext 85 = .ok (.if_icmp .ne 67, 3) := by decide +kernel
theorem dL_isNext_88 : decode cL_isNext 88 = .ok (.aload_n 0, 1) := by decide +kernel
theorem dL_isNext_89 : decode cL_isNext 89 = .ok (.iload_n 1, 1) := by decide +kernel
theorem dL_isNext_90 : decode cL_isNext 90 = .ok (.iconst 1, 1) := by decide +kernel
theorem dL_isNext_91 : decode cL_isNext 91 = .ok (.iadd, 1) := by decide +kernel
theorem dL_isNext_92 : decode cL_isNext 92 = .ok (.invokevirtual 41, 3) := by decide +kernel
theorem dL_isNext_95 : decode cL_isNext 95 = .ok (.iconst 1, 1) := by decide +kernel
theorem dL_isNext_96 : decode cL_isNext 96 = .ok (.if_icmp .ne 56, 3) := by decide +kernel
theorem dL_isNext_99 : decode cL_isNext 99 = .ok (.aload_n 0, 1) := by decide +kernel
theorem dL_isNext_100 : decode cL_isNext 100 = .ok (.iload_n 1, 1) := by decide +kernel
theorem dL_isNext_101 : decode cL_isNext 101 = .ok (.invokevirtual 41, 3) := by decide +kernel
theorem dL_isNext_104 : decode cL_isNext 104 = .ok (.sipush 365, 3) := by decide +kernel
theorem dL_isNext_107 : decode cL_isNext 107 = .ok (.if_icmp .ne 45, 3) := by decide +kernel
theorem dL_isNext_110 : decode cL_isNext 110 = .ok (.aload_n 0, 1) := by decide +kernel
theorem dL_isNext_111 : decode cL_isNext 111 = .ok (.iload_n 1, 1) := by decide +kernel
theorem dL_isNext_112 : decode cL_isNext 112 = .ok (.invokevirtual 35, 3) := by decide +kernel
theorem dL_isNext_115 : decode cL_isNext 115 = .ok (.bipush 31, 2) := by decide +kernel
theorem dL_isNext_117 : decode cL_isNext 117 = .ok (.if_icmp .ne 35, 3) := by decide +kernel
theorem dL_isNext_120 : decode cL_isNext 120 = .ok (.goto 28, 3) := by decide +kernel
theorem dL_isNext_123 : decode cL_isNext 123 = .ok (.aload_n 0, 1) := by decide +kernel
theorem dL_isNext_124 : decode cL_isNext 124 = .ok (.iload_n 1, 1) := by decide +kernel
theorem dL_isNext_125 : decode cL_isNext 125 = .ok (.iconst 1, 1) := by decide +kernel
theorem dL_isNext_126 : decode cL_isNext 126 = .ok (.iadd, 1) := by decide +kernel
theorem dL_isNext_127 : decode cL_isNext 127 = .ok (.invokevirtual 41, 3) := by decide +kernel
theorem dL_isNext_130 : decode cL_isNext 130 = .ok (.aload_n 0, 1) := by decide +kernel
theorem dL_isNext_131 : decode cL_isNext 131 = .ok (.iload_n 1, 1) := by decide +kernel
theorem dL_isNext_132 : decode cL_isNext 132 = .ok (.invokevirtual 41, 3) := by decide +kernel
theorem dL_isNext_135 : decode cL_isNext 135 = .ok (.iload_n 2, 1) := by decide +kernel
theorem dL_isNext_136 : decode cL_isNext 136 = .ok (.ifCond .eq 7, 3) := by decide +kernel
theorem dL_isNext_139 : decode cL_isNext 139 = .ok (.iconst 0, 1) := by decide +kernel
theorem dL_isNext_140 : decode cL_isNext 140 = .ok (.goto 4, 3) := by decide +kernel
theorem dL_isNext_143 : decode cL_isNext 143 = .ok (.iconst 1, 1) := by decide +kernel
theorem dL_isNext_144 : decode cL_isNext 144 = .ok (.iadd, 1) := by decide +kernel
theorem dL_isNext_145 : decode cL_isNext 145 = .ok (.if_icmp .ne 7, 3) := by decide +kernel
theorem dL_isNext_148 : decode cL_isNext 148 = .ok (.iconst 1, 1) := by decide +kernel
theorem dL_isNext_149 : decode cL_isNext 149 = .ok (.goto 4, 3) := by decide +kernel
theorem dL_isNext_152 : decode cL_isNext 152 = .ok (.iconst 0, 1) := by decide +kernel
theorem dL_isNext_153 : decode cL_isNext 153 = .ok (.istore 4, 2) := by decide +kernel
theorem dL_isNext_155 : decode cL_isNext 155 = .ok (.iload 4, 2) := by decide +kernel
theorem dL_isNext_157 : decode cL_isNext 157 = .ok (.ifCond .eq 80, 3) := by decide +kernel
theorem dL_isNext_160 : decode cL_isNext 160 = .ok (.aload_n 0, 1) := by decide +kernel
theorem dL_isNext_161 : decode cL_isNext 161 = .ok (.iload_n 1, 1) := by decide +kernel
theorem dL_isNext_162 : decode cL_isNext 162 = .ok (.iconst 1, 1) := by decide +kernel
theorem dL_isNext_163 : decode cL_isNext 163 = .ok (.iadd, 1) := by decide +kernel
theorem dL_isNext_164 : decode cL_isNext 164 = .ok (.invokevirtual 35, 3) := by decide +kernel
theorem dL_isNext_167 : decode cL_isNext 167 = .ok (.aload_n 0, 1) := by decide +kernel
theorem dL_isNext_168 : decode cL_isNext 168 = .ok (.iload_n 1, 1) := by decide +kernel
theorem dL_isNext_169 : decode cL_isNext 169 = .ok (.invokevirtual 35, 3) := by decide +kernel
theorem dL_isNext_172 : decode cL_isNext 172 = .ok (.iconst 1, 1) := by decide +kernel
theorem dL_isNext_173 : decode cL_isNext 173 = .ok (.iadd, 1) := by decide +kernel
theorem dL_isNext_174 : decode cL_isNext 174 = .ok (.if_icmp .ne 18, 3) := by decide +kernel
theorem dL_isNext_177 : decode cL_isNext 177 = .ok (.aload_n 0, 1) := by decide +kernel
theorem dL_isNext_178 : decode cL_isNext 178 = .ok (.iload_n 1, 1) := by decide +kernel
theorem dL_isNext_179 : decode cL_isNext 179 = .ok (.iconst 1, 1) := by decide +kernel
theorem dL_isNext_180 : decode cL_isNext 180 = .ok (.iadd, 1) := by decide +kernel
theorem dL_isNext_181 : decode cL_isNext 181 = .ok (.invokevirtual 32, 3) := by decide +kernel
theorem dL_isNext_184 : decode cL_isNext 184 = .ok (.aload_n 0, 1) := by decide +kernel
theorem dL_isNext_185 : decode cL_isNext 185 = .ok (.iload_n 1, 1) := by decide +kernel
theorem dL_isNext_186 : decode cL_isNext 186 = .ok (.invokevirtual 32, 3) := by decide +kernel
theorem dL_isNext_189 : decode cL_isNext 189 = .ok (.if_icmp .eq 44, 3) := by decide +kernel
theorem dL_isNext_192 : decode cL_isNext 192 = .ok (.aload_n 0, 1) := by decide +kernel
theorem dL_isNext_193 : decode cL_isNext 193 = .ok (.iload_n 1, 1) := by decide +kernel
theorem dL_isNext_194 : decode cL_isNext 194 = .ok (.iconst 1, 1) := by decide +kernel
theorem dL_isNext_195 : decode cL_isNext 195 = .ok (.iadd, 1) := by decide +kernel
theorem dL_isNext_196 : decode cL_isNext 196 = .ok (.invokevirtual 35, 3) := by decide +kernel
theorem dL_isNext_199 : decode cL_isNext 199 = .ok (.iconst 1, 1) := by decide +kernel
theorem dL_isNext_200 : decode cL_isNext 200 = .ok (.if_icmp .ne 37, 3) := by decide +kernel
theorem dL_isNext_203 : decode cL_isNext 203 = .ok (.aload_n 0, 1) := by decide +kernel
theorem dL_isNext_204 : decode cL_isNext 204 = .ok (.iload_n 1, 1) := by decide +kernel
theorem dL_isNext_205 : decode cL_isNext 205 = .ok (.invokevirtual 35, 3) := by decide +kernel
theorem dL_isNext_208 : decode cL_isNext 208 = .ok (.bipush 28, 2) := by decide +kernel
theorem dL_isNext_210 : decode cL_isNext 210 = .ok (.if_icmp .lt 27, 3) := by decide +kernel
theorem dL_isNext_213 : decode cL_isNext 213 = .ok (.aload_n 0, 1) := by decide +kernel
theorem dL_isNext_214 : decode cL_isNext 214 = .ok (.iload_n 1, 1) := by decide +kernel
theorem dL_isNext_215 : decode cL_isNext 215 = .ok (.invokevirtual 53, 3) := by decide +kernel
theorem dL_isNext_218 : decode cL_isNext 218 = .ok (.iconst 2, 1) := by decide +kernel
theorem dL_isNext_219 : decode cL_isNext 219 = .ok (.if_icmp .ne 18, 3) := by decide +kernel
theorem dL_isNext_222 : decode cL_isNext 222 = .ok (.aload_n 0, 1) := by decide +kernel
theorem dL_isNext_223 : decode cL_isNext 223 = .ok (.iload_n 1, 1) := by decide +kernel
theorem dL_isNext_224 : decode cL_isNext 224 = .ok (.iconst 1, 1) := by decide +kernel
theorem dL_isNext_225 : decode cL_isNext 225 = .ok (.iadd, 1) := by decide +kernel
theorem dL_isNext_226 : decode cL_isNext 226 = .ok (.invokevirtual 53, 3) := by decide +kernel
theorem dL_isNext_229 : decode cL_isNext 229 = .ok (.iconst 1, 1) := by decide +kernel
theorem dL_isNext_230 : decode cL_isNext 230 = .ok (.if_icmp .ne 7, 3) := by decide +kernel
theorem dL_isNext_233 : decode cL_isNext 233 = .ok (.iconst 1, 1) := by decide +kernel
theorem dL_isNext_234 : decode cL_isNext 234 = .ok (.goto 4, 3) := by decide +kernel
theorem dL_isNext_237 : decode cL_isNext 237 = .ok (.iconst 0, 1) := by decide +kernel
theorem dL_isNext_238 : decode cL_isNext 238 = .ok (.istore 4, 2) := by decide +kernel
theorem dL_isNext_240 : decode cL_isNext 240 = .ok (.iload 4, 2) := by decide +kernel
theorem dL_isNext_242 : decode cL_isNext 242 = .ok (.ifCond .eq 73, 3) := by decide +kernel
theorem dL_isNext_245 : decode cL_isNext 245 = .ok (.aload_n 0, 1) := by decide +kernel
theorem dL_isNext_246 : decode cL_isNext 246 = .ok (.iload_n 1, 1) := by decide +kernel
theorem dL_isNext_247 : decode cL_isNext 247 = .ok (.invokevirtual 53, 3) := by decide +kernel
theorem dL_isNext_250 : decode cL_isNext 250 = .ok (.iconst 1, 1) := by decide +kernel
theorem dL_isNext_251 : decode cL_isNext 251 = .ok (.if_icmp .ne 17, 3) := by decide +kernel
theorem dL_isNext_254 : decode cL_isNext 254 = .ok (.aload_n 0, 1) := by decide +kernel
theorem dL_isNext_255 : decode cL_isNext 255 = .ok (.iload_n 1, 1) := by decide +kernel
theorem dL_isNext_256 : decode cL_isNext 256 = .ok (.iconst 1, 1) := by decide +kernel
theorem dL_isNext_257 : decode cL_isNext 257 = .ok (.iadd, 1) := by decide +kernel
theorem dL_isNext_258 : decode cL_isNext 258 = .ok (.invokevirtual 53, 3) := by decide +kernel
theorem dL_isNext_261 : decode cL_isNext 261 = .ok (.iconst 1, 1) := by decide +kernel
theorem dL_isNext_262 : decode cL_isNext 262 = .ok (.if_icmp .le 53, 3) := by decide +kernel
theorem dL_isNext_265 : decode cL_isNext 265 = .ok (.goto 28, 3) := by decide +kernel
theorem dL_isNext_268 : decode cL_isNext 268 = .ok (.aload_n 0, 1) := by decide +kernel
theorem dL_isNext_269 : decode cL_isNext 269 = .ok (.iload_n 1, 1) := by decide +kernel
theorem dL_isNext_270 : decode cL_isNext 270 = .ok (.iconst 1, 1) := by decide +kernel
theorem dL_isNext_271 : decode cL_isNext 271 = .ok (.iadd, 1) := by decide +kernel
theorem dL_isNext_272 : decode cL_isNext 272 = .ok (.invokevirtual 53, 3) := by decide +kernel
theorem dL_isNext_275 : decode cL_isNext 275 = .ok (.aload_n 0, 1) := by decide +kernel
theorem dL_isNext_276 : decode cL_isNext 276 = .ok (.iload_n 1, 1) := by decide +kernel
theorem dL_isNext_277 : decode cL_isNext 277 = .ok (.invokevirtual 53, 3) := by decide +kernel
theorem dL_isNext_280 : decode cL_isNext 280 = .ok (.iload_n 2, 1) := by decide +kernel
theorem dL_isNext_281 : decode cL_isNext 281 = .ok (.ifCond .eq 7, 3) := by decide +kernel
theorem dL_isNext_284 : decode cL_isNext 284 = .ok (.iconst 0, 1) := by decide +kernel
theorem dL_isNext_285 : decode cL_isNext 285 = .ok (.goto 4, 3) := by decide +kernel
theorem dL_isNext_288 : decode cL_isNext 288 = .ok (.iconst 1, 1) := by decide +kernel
theorem dL_isNext_289 : decode cL_isNext 289 = .ok (.isub, 1) := by decide +kernel
theorem dL_isNext_290 : decode cL_isNext 290 = .ok (.if_icmp .ne 25, 3) := by decide +kernel
theorem dL_isNext_293 : decode cL_isNext 293 = .ok (.aload_n 0, 1) := by decide +kernel
theorem dL_isNext_294 : decode cL_isNext 294 = .ok (.iload_n 1, 1) := by decide +kernel
theorem dL_isNext_295 : decode cL_isNext 295 = .ok (.invokevirtual 84, 3) := by decide +kernel
theorem dL_isNext_298 : decode cL_isNext 298 = .ok (.ifCond .eq 13, 3) := by decide +kernel
theorem dL_isNext_301 : decode cL_isNext 301 = .ok (.aload_n 0, 1) := by decide +kernel
theorem dL_isNext_302 : decode cL_isNext 302 = .ok (.iload_n 1, 1) := by decide +kernel
theorem dL_isNext_303 : decode cL_isNext 303 = .ok (.iconst 1, 1) := by decide +kernel
theorem dL_isNext_304 : decode cL_isNext 304 = .ok (.iadd, 1) := by decide +kernel
theorem dL_isNext_305 : decode cL_isNext 305 = .ok (.invokevirtual 84, 3) := by decide +kernel
theorem dL_isNext_308 : decode cL_isNext 308 = .ok (.ifCond .ne 7, 3) := by decide +kernel
theorem dL_isNext_311 : decode cL_isNext 311 = .ok (.iconst 1, 1) := by decide +kernel
theorem dL_isNext_312 : decode cL_isNext 312 = .ok (.goto 4, 3) := by decide +kernel
theorem dL_isNext_315 : decode cL_isNext 315 = .ok (.iconst 0, 1) := by decide +kernel
theorem dL_isNext_316 : decode cL_isNext 316 = .ok (.ireturn, 1) := by decide +kernel
set_option maxRecDepth 20000 in
theorem ggL_isKept_X0_characterOf : GoodIn wsL_isKept wsX0_characterOf := goodIn_ca (goodIn_r _ [5, 6, 7, 4, 8, 9, 10, 11, 12, 13, 14, 15, 16, 17, 18, 19, 20, 21, 22, 23, 24, 25, 26, 27, 28, 58, 59, 60, 61] (by decide +kernel) (by decide +kernel)) (goodIn_sub (fun _ h => List.mem_cons_of_mem _ (List.mem_append_right _ h)) (by decide +kernel))
set_option maxRecDepth 20000 in
theorem gL_isKept_X0_characterOf : GoodIn wsL_isKept (wsV RL 87 RX0 yX0_characterOf wsX0_characterOf) := goodIn_app (goodIn_of _ (by decide +kernel)) ggL_isKept_X0_characterOf
set_option maxRecDepth 20000 in
theorem ggL_isKept_X0_nextCourt : GoodIn wsL_isKept wsX0_nextCourt := goodIn_ca (goodIn_r _ [32, 11, 33, 34, 35, 36, 6, 7, 4, 8, 9, 10, 12, 13, 14, 15, 16, 17, 18, 19, 20, 21, 22, 23, 24, 25, 26, 27, 28, 58, 59, 60, 61] (by decide +kernel) (by decide +kernel)) (goodIn_sub (fun _ h => List.mem_cons_of_mem _ (List.mem_append_right _ h)) (by decide +kernel))
set_option maxRecDepth 20000 in
theorem gL_isKept_X0_nextCourt : GoodIn wsL_isKept (wsV RL 90 RX0 yX0_nextCourt wsX0_nextCourt) := goodIn_app (goodIn_of _ (by decide +kernel)) ggL_isKept_X0_nextCourt
set_option maxRecDepth 20000 in
theorem ggL_isKept_X0_canVote : GoodIn wsL_isKept wsX0_canVote := goodIn_ca (goodIn_r _ [40, 6, 7, 4, 8, 9, 10, 11, 41, 42, 43, 44, 12, 13, 14, 15, 16, 17, 18, 19, 20, 21, 22, 23, 24, 25, 26, 27, 28, 45, 46, 47, 48, 49, 58, 59, 60, 61] (by decide +kernel) (by decide +kernel)) (goodIn_sub (fun _ h => List.mem_cons_of_mem _ (List.mem_append_right _ h)) (by decide +kernel))
set_option maxRecDepth 20000 in
theorem gL_isKept_X0_canVote : GoodIn wsL_isKept (wsV RL 93 RX0 yX0_canVote wsX0_canVote) := goodIn_app (goodIn_of _ (by decide +kernel)) ggL_isKept_X0_canVote
set_option maxRecDepth 20000 in
theorem ggL_isKept_X0_isMarket : GoodIn wsL_isKept wsX0_isMarket := goodIn_ca (goodIn_r _ [53, 6, 7, 4, 8, 9, 10, 11, 45, 46, 47, 48, 49, 58, 59, 60, 61] (by decide +kernel) (by decide +kernel)) (goodIn_sub (fun _ h => List.mem_cons_of_mem _ (List.mem_append_right _ h)) (by decide +kernel))
set_option maxRecDepth 20000 in
theorem gL_isKept_X0_isMarket : GoodIn wsL_isKept (wsV RL 84 RX0 yX0_isMarket wsX0_isMarket) := goodIn_app (goodIn_of _ (by decide +kernel)) ggL_isKept_X0_isMarket
set_option maxRecDepth 20000 in
theorem ggL_isKept_X0_days : GoodIn wsL_isKept wsX0_days := goodIn_r _ [57, 11] (by decide +kernel) (by decide +kernel)
set_option maxRecDepth 20000 in
theorem gL_isKept_X0_days : GoodIn wsL_isKept (wsV RL 96 RX0 yX0_days wsX0_days) := goodIn_app (goodIn_of _ (by decide +kernel)) ggL_isKept_X0_days
theorem dL_isKept_0 : decode cL_isKept 0 = .ok (.aload_n 0, 1) := by decide +kernel
theorem dL_isKept_1 : decode cL_isKept 1 = .ok (.iload_n 1, 1) := by decide +kernel
theorem dL_isKept_2 : decode cL_isKept 2 = .ok (.invokevirtual 87, 3) := by decide +kernel
theorem dL_isKept_5 : decode cL_isKept 5 = .ok (.istore_n 2, 1) := by decide +kernel
theorem dL_isKept_6 : decode cL_isKept 6 = .ok (.aload_n 0, 1) := by decide +kernel
theorem dL_isKept_7 : decode cL_isKept 7 = .ok (.iload_n 1, 1) := by decide +kernel
theorem dL_isKept_8 : decode cL_isKept 8 = .ok (.invokevirtual 90, 3) := by decide +kernel
theorem dL_isKept_11 : decode cL_isKept 11 = .ok (.istore_n 3, 1) := by decide +kernel
theorem dL_isKept_12 : decode cL_isKept 12 = .ok (.aload_n 0, 1) := by decide +kernel
theorem dL_isKept_13 : decode cL_isKept 13 = .ok (.iload_n 1, 1) := by decide +kernel
theorem dL_isKept_14 : decode cL_isKept 14 = .ok (.invokevirtual 93, 3) := by decide +kernel
theorem dL_isKept_17 : decode cL_isKept 17 = .ok (.iload_n 2, 1) := by decide +kernel
theorem dL_isKept_18 : decode cL_isKept 18 = .ok (.iconst 2, 1) := by decide +kernel
theorem dL_isKept_19 : decode cL_isKept 19 = .ok (.if_icmp .ne 15, 3) := by decide +kernel
theorem dL_isKept_22 : decode cL_isKept 22 = .ok (.aload_n 0, 1) := by decide +kernel
theorem dL_isKept_23 : decode cL_isKept 23 = .ok (.iload_n 1, 1) := by decide +kernel
theorem dL_isKept_24 : decode cL_isKept 24 = .ok (.invokevirtual 84, 3) := by decide +kernel
theorem dL_isKept_27 : decode cL_isKept 27 = .ok (.ifCond .ne 7, 3) := by decide +kernel
theorem dL_isKept_30 : decode cL_isKept 30 = .ok (.iconst 1, 1) := by decide +kernel
theorem dL_isKept_31 : decode cL_isKept 31 = .ok (.goto 4, 3) := by decide +kernel
theorem dL_isKept_34 : decode cL_isKept 34 = .ok (.iconst 0, 1) := by decide +kernel
theorem dL_isKept_35 : decode cL_isKept 35 = .ok (.if_icmp .ne 34, 3) := by decide +kernel
theorem dL_isKept_38 : decode cL_isKept 38 = .ok (.iload_n 1, 1) := by decide +kernel
theorem dL_isKept_39 : decode cL_isKept 39 = .ok (.bipush 8, 2) := by decide +kernel
theorem dL_isKept_41 : decode cL_isKept 41 = .ok (.if_icmp .lt 19, 3) := by decide +kernel
theorem dL_isKept_44 : decode cL_isKept 44 = .ok (.aload_n 0, 1) := by decide +kernel
theorem dL_isKept_45 : decode cL_isKept 45 = .ok (.iload_n 1, 1) := by decide +kernel
theorem dL_isKept_46 : decode cL_isKept 46 = .ok (.invokevirtual 84, 3) := by decide +kernel
theorem dL_isKept_49 : decode cL_isKept 49 = .ok (.aload_n 0, 1) := by decide +kernel
theorem dL_isKept_50 : decode cL_isKept 50 = .ok (.iload_n 1, 1) := by decide +kernel
theorem dL_isKept_51 : decode cL_isKept 51 = .ok (.bipush 8, 2) := by decide +kernel
theorem dL_isKept_53 : decode cL_isKept 53 = .ok (.isub, 1) := by decide +kernel
theorem dL_isKept_54 : decode cL_isKept 54 = .ok (.invokevirtual 84, 3) := by decide +kernel
theorem dL_isKept_57 : decode cL_isKept 57 = .ok (.if_icmp .ne 12, 3) := by decide +kernel
theorem dL_isKept_60 : decode cL_isKept 60 = .ok (.iload_n 3, 1) := by decide +kernel
theorem dL_isKept_61 : decode cL_isKept 61 = .ok (.iconst (-1), 1) := by decide +kernel
theorem dL_isKept_62 : decode cL_isKept 62 = .ok (.if_icmp .lt 7, 3) := by decide +kernel
theorem dL_isKept_65 : decode cL_isKept 65 = .ok (.iconst 1, 1) := by decide +kernel
theorem dL_isKept_66 : decode cL_isKept 66 = .ok (.goto 4, 3) := by decide +kernel
theorem dL_isKept_69 : decode cL_isKept 69 = .ok (.iconst 0, 1) := by decide +kernel
theorem dL_isKept_70 : decode cL_isKept 70 = .ok (.istore 4, 2) := by decide +kernel
theorem dL_isKept_72 : decode cL_isKept 72 = .ok (.iload_n 1, 1) := by decide +kernel
theorem dL_isKept_73 : decode cL_isKept 73 = .ok (.istore 5, 2) := by decide +kernel
theorem dL_isKept_75 : decode cL_isKept 75 = .ok (.iload 5, 2) := by decide +kernel
theorem dL_isKept_77 : decode cL_isKept 77 = .ok (.iload_n 1, 1) := by decide +kernel
theorem dL_isKept_78 : decode cL_isKept 78 = .ok (.bipush 12, 2) := by decide +kernel
theorem dL_isKept_80 : decode cL_isKept 80 = .ok (.iadd, 1) := by decide +kernel
theorem dL_isKept_81 : decode cL_isKept 81 = .ok (.if_icmp .ge 104, 3) := by decide +kernel
theorem dL_isKept_84 : decode cL_isKept 84 = .ok (.iload 5, 2) := by decide +kernel
theorem dL_isKept_86 : decode cL_isKept 86 = .ok (.aload_n 0, 1) := by decide +kernel
theorem dL_isKept_87 : decode cL_isKept 87 = .ok (.invokevirtual 96, 3) := by decide +kernel
theorem dL_isKept_90 : decode cL_isKept 90 = .ok (.if_icmp .ge 95, 3) := by decide +kernel
theorem dL_isKept_93 : decode cL_isKept 93 = .ok (.iload 4, 2) := by decide +kernel
theorem dL_isKept_95 : decode cL_isKept 95 = .ok (.ifCond .eq 90, 3) := by decide +kernel
theorem dL_isKept_98 : decode cL_isKept 98 = .ok (.aload_n 0, 1) := by decide +kernel
theorem dL_isKept_99 : decode cL_isKept 99 = .ok (.iload 5, 2) := by decide +kernel
theorem dL_isKept_101 : decode cL_isKept 101 = .ok (.invokevirtual 87, 3) := by decide +kernel
theorem dL_isKept_104 : decode cL_isKept 104 = .ok (.istore 6, 2) := by decide +kernel
theorem dL_isKept_106 : decode cL_isKept 106 = .ok (.iload 6, 2) := by decide +kernel
theorem dL_isKept_108 : decode cL_isKept 108 = .ok (.ifCond .eq 9, 3) := by decide +kernel
theorem dL_isKept_111 : decode cL_isKept 111 = .ok (.iload 6, 2) := by decide +kernel
theorem dL_isKept_113 : decode cL_isKept 113 = .ok (.iconst 2, 1) := by decide +kernel
theorem dL_isKept_114 : decode cL_isKept 114 = .ok (.if_icmp .ne 7, 3) := by decide +kernel
theorem dL_isKept_117 : decode cL_isKept 117 = .ok (.iconst 1, 1) := by decide +kernel
theorem dL_isKept_118 : decode cL_isKept 118 = .ok (.goto 4, 3) := by decide +kernel
theorem dL_isKept_121 : decode cL_isKept 121 = .ok (.iconst 0, 1) := by decide +kernel
theorem dL_isKept_122 : decode cL_isKept 122 = .ok (.istore 7, 2) := by decide +kernel
theorem dL_isKept_124 : decode cL_isKept 124 = .ok (.iload_n 3, 1) := by decide +kernel
theorem dL_isKept_125 : decode cL_isKept 125 = .ok (.iconst (-1), 1) := by decide +kernel
theorem dL_isKept_126 : decode cL_isKept 126 = .ok (.if_icmp .ne 16, 3) := by decide +kernel
theorem dL_isKept_129 : decode cL_isKept 129 = .ok (.iload 7, 2) := by decide +kernel
theorem dL_isKept_131 : decode cL_isKept 131 = .ok (.ifCond .ne 7, 3) := by decide +kernel
theorem dL_isKept_134 : decode cL_isKept 134 = .ok (.iconst 1, 1) := by decide +kernel
theorem dL_isKept_135 : decode cL_isKept 135 = .ok (.goto 42, 3) := by decide +kernel
theorem dL_isKept_138 : decode cL_isKept 138 = .ok (.iconst 0, 1) := by decide +kernel
theorem dL_isKept_139 : decode cL_isKept 139 = .ok (.goto 38, 3) := by decide +kernel
theorem dL_isKept_142 : decode cL_isKept 142 = .ok (.iload 5, 2) := by decide +kernel
theorem dL_isKept_144 : decode cL_isKept 144 = .ok (.iload_n 3, 1) := by decide +kernel
theorem dL_isKept_145 : decode cL_isKept 145 = .ok (.if_icmp .ge 16, 3) := by decide +kernel
theorem dL_isKept_148 : decode cL_isKept 148 = .ok (.iload 7, 2) := by decide +kernel
theorem dL_isKept_150 : decode cL_isKept 150 = .ok (.ifCond .ne 7, 3) := by decide +kernel
theorem dL_isKept_153 : decode cL_isKept 153 = .ok (.iconst 1, 1) := by decide +kernel
theorem dL_isKept_154 : decode cL_isKept 154 = .ok (.goto 23, 3) := by decide +kernel
theorem dL_isKept_157 : decode cL_isKept 157 = .ok (.iconst 0, 1) := by decide +kernel
theorem dL_isKept_158 : decode cL_isKept 158 = .ok (.goto 19, 3) := by decide +kernel
theorem dL_isKept_161 : decode cL_isKept 161 = .ok (.iload 5, 2) := by decide +kernel
theorem dL_isKept_163 : decode cL_isKept 163 = .ok (.iload_n 3, 1) := by decide +kernel
theorem dL_isKept_164 : decode cL_isKept 164 = .ok (.if_icmp .gt 8, 3) := by decide +kernel
theorem dL_isKept_167 : decode cL_isKept 167 = .ok (.iload 7, 2) := by decide +kernel
theorem dL_isKept_169 : decode cL_isKept 169 = .ok (.ifCond .eq 7, 3) := by decide +kernel
theorem dL_isKept_172 : decode cL_isKept 172 = .ok (.iconst 1, 1) := by decide +kernel
theorem dL_isKept_173 : decode cL_isKept 173 = .ok (.goto 4, 3) := by decide +kernel
theorem dL_isKept_176 : decode cL_isKept 176 = .ok (.iconst 0, 1) := by decide +kernel
theorem dL_isKept_177 : decode cL_isKept 177 = .ok (.istore 4, 2) := by decide +kernel
theorem dL_isKept_179 : decode cL_isKept 179 = .ok (.iinc 5 1, 3) := by decide +kernel
theorem dL_isKept_182 : decode cL_isKept 182 = .ok (.goto (-107), 3) := by decide +kernel
theorem dL_isKept_185 : decode cL_isKept 185 = .ok (.iload 4, 2) := by decide +kernel
theorem dL_isKept_187 : decode cL_isKept 187 = .ok (.ireturn, 1) := by decide +kernel
set_option maxRecDepth 20000 in
theorem ggL_isYear_X0_marketLetters : GoodIn wsL_isYear wsX0_marketLetters := goodIn_ca (goodIn_r _ [5, 6, 7, 8, 4, 9, 10, 11, 12, 13, 14, 15, 16, 17, 18, 19, 20, 21, 22, 23, 24, 25, 26, 27, 28, 29, 30, 31, 32, 33, 91, 92, 93, 94] (by decide +kernel) (by decide +kernel)) (goodIn_sub (fun _ h => List.mem_cons_of_mem _ (List.mem_append_left _ (List.mem_append_right _ h))) (by decide +kernel))
set_option maxRecDepth 20000 in
theorem gL_isYear_X0_marketLetters : GoodIn wsL_isYear (wsV RL 100 RX0 yX0_marketLetters wsX0_marketLetters) := goodIn_app (goodIn_of _ (by decide +kernel)) ggL_isYear_X0_marketLetters
set_option maxRecDepth 20000 in
theorem ggL_isYear_X0_sundayLetters : GoodIn wsL_isYear wsX0_sundayLetters := goodIn_ca (goodIn_r _ [37, 7, 8, 4, 9, 10, 11, 12, 13, 14, 15, 16, 17, 18, 19, 20, 21, 38, 39, 40, 25, 26, 27, 28, 29, 30, 31, 32, 33] (by decide +kernel) (by decide +kernel)) (goodIn_sub (fun _ h => List.mem_cons_of_mem _ (List.mem_append_left _ (List.mem_append_right _ h))) (by decide +kernel))
set_option maxRecDepth 20000 in
theorem gL_isYear_X0_sundayLetters : GoodIn wsL_isYear (wsV RL 103 RX0 yX0_sundayLetters wsX0_sundayLetters) := goodIn_app (goodIn_of _ (by decide +kernel)) ggL_isYear_X0_sundayLetters
set_option maxRecDepth 20000 in
theorem ggL_isYear_X0_votes : GoodIn wsL_isYear wsX0_votes := goodIn_ca (goodIn_r _ [44, 7, 8, 4, 9, 10, 11, 15, 16, 17, 12, 13, 14, 45, 46, 47, 48, 25, 26, 27, 28, 29, 30, 31, 32, 33, 49, 50, 51, 52, 53, 54, 55, 56, 57, 58, 59, 60, 6, 91, 92, 93, 94] (by decide +kernel) (by decide +kernel)) (goodIn_sub (fun _ h => List.mem_cons_of_mem _ (List.mem_append_left _ (List.mem_append_right _ h))) (by decide +kernel))
set_option maxRecDepth 20000 in
theorem gL_isYear_X0_votes : GoodIn wsL_isYear (wsV RL 106 RX0 yX0_votes wsX0_votes) := goodIn_app (goodIn_of _ (by decide +kernel)) ggL_isYear_X0_votes
set_option maxRecDepth 20000 in
theorem ggL_isYear_X0_consulsOf : GoodIn wsL_isYear wsX0_consulsOf := goodIn_ca (goodIn_r _ [64, 65, 7, 8, 4, 9, 10, 11, 66, 67, 68, 69, 70, 71, 72, 73, 91, 92, 93, 94] (by decide +kernel) (by decide +kernel)) (goodIn_sub (fun _ h => List.mem_cons_of_mem _ (List.mem_append_left _ (List.mem_append_right _ h))) (by decide +kernel))
set_option maxRecDepth 20000 in
theorem gL_isYear_X0_consulsOf : GoodIn wsL_isYear (wsV RL 109 RX0 yX0_consulsOf wsX0_consulsOf) := goodIn_app (goodIn_of _ (by decide +kernel)) ggL_isYear_X0_consulsOf
set_option maxRecDepth 20000 in
theorem ggL_isYear_X0_afterConsuls : GoodIn wsL_isYear wsX0_afterConsuls := goodIn_ca (goodIn_r _ [77, 70, 7, 8, 4, 9, 10, 11, 91, 92, 93, 94] (by decide +kernel) (by decide +kernel)) (goodIn_sub (fun _ h => List.mem_cons_of_mem _ (List.mem_append_left _ (List.mem_append_right _ h))) (by decide +kernel))
set_option maxRecDepth 20000 in
theorem gL_isYear_X0_afterConsuls : GoodIn wsL_isYear (wsV RL 112 RX0 yX0_afterConsuls wsX0_afterConsuls) := goodIn_app (goodIn_of _ (by decide +kernel)) ggL_isYear_X0_afterConsuls
set_option maxRecDepth 20000 in
theorem ggL_isYear_X0_yearOfConsuls : GoodIn wsL_isYear wsX0_yearOfConsuls := goodIn_ca (goodIn_r _ [81, 82, 83, 84, 85, 86, 4, 87, 70, 65, 88, 89, 90, 91, 92, 93, 94] (by decide +kernel) (by decide +kernel)) (goodIn_sub (fun _ h => List.mem_cons_of_mem _ (List.mem_append_right _ h)) (by decide +kernel))
set_option maxRecDepth 20000 in
theorem gL_isYear_X0_yearOfConsuls : GoodIn wsL_isYear (wsV RL 115 RX0 yX0_yearOfConsuls wsX0_yearOfConsuls) := goodIn_app (goodIn_of _ (by decide +kernel)) ggL_isYear_X0_yearOfConsuls
theorem dL_isYear_0 : decode cL_isYear 0 = .ok (.aload_n 0, 1) := by decide +kernel
theorem dL_isYear_1 : decode cL_isYear 1 = .ok (.iload_n 1, 1) := by decide +kernel
theorem dL_isYear_2 : decode cL_isYear 2 = .ok (.invokevirtual 100, 3) := by decide +kernel
theorem dL_isYear_5 : decode cL_isYear 5 = .ok (.istore_n 2, 1) := by decide +kernel
theorem dL_isYear_6 : decode cL_isYear 6 = .ok (.aload_n 0, 1) := by decide +kernel
theorem dL_isYear_7 : decode cL_isYear 7 = .ok (.iload_n 1, 1) := by decide +kernel
theorem dL_isYear_8 : decode cL_isYear 8 = .ok (.invokevirtual 103, 3) := by decide +kernel
theorem dL_isYear_11 : decode cL_isYear 11 = .ok (.istore_n 3, 1) := by decide +kernel
theorem dL_isYear_12 : decode cL_isYear 12 = .ok (.aload_n 0, 1) := by decide +kernel
theorem dL_isYear_13 : decode cL_isYear 13 = .ok (.iload_n 1, 1) := by decide +kernel
theorem dL_isYear_14 : decode cL_isYear 14 = .ok (.invokevirtual 106, 3) := by decide +kernel
theorem dL_isYear_17 : decode cL_isYear 17 = .ok (.istore 4, 2) := by decide +kernel
theorem dL_isYear_19 : decode cL_isYear 19 = .ok (.aload_n 0, 1) := by decide +kernel
theorem dL_isYear_20 : decode cL_isYear 20 = .ok (.iload_n 1, 1) := by decide +kernel
theorem dL_isYear_21 : decode cL_isYear 21 = .ok (.invokevirtual 109, 3) := by decide +kernel
theorem dL_isYear_24 : decode cL_isYear 24 = .ok (.istore 5, 2) := by decide +kernel
theorem dL_isYear_26 : decode cL_isYear 26 = .ok (.aload_n 0, 1) := by decide +kernel
theorem dL_isYear_27 : decode cL_isYear 27 = .ok (.iload_n 1, 1) := by decide +kernel
theorem dL_isYear_28 : decode cL_isYear 28 = .ok (.invokevirtual 112, 3) := by decide +kernel
theorem dL_isYear_31 : decode cL_isYear 31 = .ok (.istore 6, 2) := by decide +kernel
theorem dL_isYear_33 : decode cL_isYear 33 = .ok (.iload 5, 2) := by decide +kernel
theorem dL_isYear_35 : decode cL_isYear 35 = .ok (.ifCond .ge 7, 3) := by decide +kernel
theorem dL_isYear_38 : decode cL_isYear 38 = .ok (.iconst (-1), 1) := by decide +kernel
theorem dL_isYear_39 : decode cL_isYear 39 = .ok (.goto 20, 3) := by decide +kernel
theorem dL_isYear_42 : decode cL_isYear 42 = .ok (.aload_n 0, 1) := by decide +kernel
theorem dL_isYear_43 : decode cL_isYear 43 = .ok (.iload 5, 2) := by decide +kernel
theorem dL_isYear_45 : decode cL_isYear 45 = .ok (.sipush 1000, 3) := by decide +kernel
theorem dL_isYear_48 : decode cL_isYear 48 = .ok (.irem, 1) := by decide +kernel
theorem dL_isYear_49 : decode cL_isYear 49 = .ok (.iload 5, 2) := by decide +kernel
theorem dL_isYear_51 : decode cL_isYear 51 = .ok (.sipush 1000, 3) := by decide +kernel
theorem dL_isYear_54 : decode cL_isYear 54 = .ok (.idiv, 1) := by decide +kernel
theorem dL_isYear_55 : decode cL_isYear 55 = .ok (.iconst 1, 1) := by decide +kernel
theorem dL_isYear_56 : decode cL_isYear 56 = .ok (.invokevirtual 115, 3) := by decide +kernel
theorem dL_isYear_59 : decode cL_isYear 59 = .ok (.istore 7, 2) := by decide +kernel
theorem dL_isYear_61 : decode cL_isYear 61 = .ok (.iload_n 2, 1) := by decide +kernel
theorem dL_isYear_62 : decode cL_isYear 62 = .ok (.ifCond .lt 139, 3) := by decide +kernel
theorem dL_isYear_65 : decode cL_isYear 65 = .ok (.iload_n 2, 1) := by decide +kernel
theorem dL_isYear_66 : decode cL_isYear 66 = .ok (.bipush 77, 2) := by decide +kernel
theorem dL_isYear_68 : decode cL_isYear 68 = .ok (.if_icmp .gt 133, 3) := by decide +kernel
theorem dL_isYear_71 : decode cL_isYear 71 = .ok (.iload_n 2, 1) := by decide +kernel
theorem dL_isYear_72 : decode cL_isYear 72 = .ok (.bipush 10, 2) := by decide +kernel
theorem dL_isYear_74 : decode cL_isYear 74 = .ok (.irem, 1) := by decide +kernel
theorem dL_isYear_75 : decode cL_isYear 75 = .ok (.bipush 8, 2) := by decide +kernel
theorem dL_isYear_77 : decode cL_isYear 77 = .ok (.if_icmp .ge 124, 3) := by decide +kernel
theorem dL_isYear_80 : decode cL_isYear 80 = .ok (.iload_n 3, 1) := by decide +kernel
theorem dL_isYear_81 : decode cL_isYear 81 = .ok (.ifCond .lt 120, 3) := by decide +kernel
theorem dL_isYear_84 : decode cL_isYear 84 = .ok (.iload_n 3, 1) := by decide +kernel
theorem dL_isYear_85 : decode cL_isYear 85 = .ok (.bipush 66, 2) := by decide +kernel
theorem dL_isYear_87 : decode cL_isYear 87 = .ok (.if_icmp .gt 114, 3) := by decide +kernel
theorem dL_isYear_90 : decode cL_isYear 90 = .ok (.iload_n 3, 1) := by decide +kernel
theorem dL_isYear_91 : decode cL_isYear 91 = .ok (.bipush 10, 2) := by decide +kernel
theorem dL_isYear_93 : decode cL_isYear 93 = .ok (.irem, 1) := by decide +kernel
theorem dL_isYear_94 : decode cL_isYear 94 = .ok (.bipush 7, 2) := by decide +kernel
theorem dL_isYear_96 : decode cL_isYear 96 = .ok (.if_icmp .ge 105, 3) := by decide +kernel
theorem dL_isYear_99 : decode cL_isYear 99 = .ok (.iload 4, 2) := by decide +kernel
theorem dL_isYear_101 : decode cL_isYear 101 = .ok (.ifCond .lt 100, 3) := by decide +kernel
theorem dL_isYear_104 : decode cL_isYear 104 = .ok (.iload 4, 2) := by decide +kernel
theorem dL_isYear_106 : decode cL_isYear 106 = .ok (.sipush 321, 3) := by decide +kernel
theorem dL_isYear_109 : decode cL_isYear 109 = .ok (.if_icmp .gt 92, 3) := by decide +kernel
theorem dL_isYear_112 : decode cL_isYear 112 = .ok (.iload 6, 2) := by decide +kernel
theorem dL_isYear_114 : decode cL_isYear 114 = .ok (.ifCond .ne 7, 3) := by decide +kernel
theorem dL_isYear_117 : decode cL_isYear 117 = .ok (.iconst 1, 1) := by decide +kernel
theorem dL_isYear_118 : decode cL_isYear 118 = .ok (.goto 4, 3) := by decide +kernel
theorem dL_isYear_121 : decode cL_isYear 121 = .ok (.iconst 0, 1) := by decide +kernel
theorem dL_isYear_122 : decode cL_isYear 122 = .ok (.iload 5, 2) := by decide +kernel
theorem dL_isYear_124 : decode cL_isYear 124 = .ok (.ifCond .le 7, 3) := by decide +kernel
theorem dL_isYear_127 : decode cL_isYear 127 = .ok (.iconst 1, 1) := by decide +kernel
theorem dL_isYear_128 : decode cL_isYear 128 = .ok (.goto 4, 3) := by decide +kernel
theorem dL_isYear_131 : decode cL_isYear 131 = .ok (.iconst 0, 1) := by decide +kernel
theorem dL_isYear_132 : decode cL_isYear 132 = .ok (.if_icmp .ne 69, 3) := by decide +kernel
theorem dL_isYear_135 : decode cL_isYear 135 = .ok (.iload 6, 2) := by decide +kernel
theorem dL_isYear_137 : decode cL_isYear 137 = .ok (.iconst 1, 1) := by decide +kernel
theorem dL_isYear_138 : decode cL_isYear 138 = .ok (.if_icmp .lt 42, 3) := by decide +kernel
theorem dL_isYear_141 : decode cL_isYear 141 = .ok (.aload_n 0, 1) := by decide +kernel
theorem dL_isYear_142 : decode cL_isYear 142 = .ok (.iload_n 1, 1) := by decide +kernel
theorem dL_isYear_143 : decode cL_isYear 143 = .ok (.iload 6, 2) := by decide +kernel
theorem dL_isYear_145 : decode cL_isYear 145 = .ok (.isub, 1) := by decide +kernel
theorem dL_isYear_146 : decode cL_isYear 146 = .ok (.invokevirtual 109, 3) := by decide +kernel
theorem dL_isYear_149 : decode cL_isYear 149 = .ok (.ifCond .le 52, 3) := by decide +kernel
theorem dL_isYear_152 : decode cL_isYear 152 = .ok (.aload_n 0, 1) := by decide +kernel
theorem dL_isYear_153 : decode cL_isYear 153 = .ok (.iload_n 1, 1) := by decide +kernel
theorem dL_isYear_154 : decode cL_isYear 154 = .ok (.iconst 1, 1) := by decide +kernel
theorem dL_isYear_155 : decode cL_isYear 155 = .ok (.isub, 1) := by decide +kernel
theorem dL_isYear_156 : decode cL_isYear 156 = .ok (.invokevirtual 109, 3) := by decide +kernel
theorem dL_isYear_159 : decode cL_isYear 159 = .ok (.iload 6, 2) := by decide +kernel
theorem dL_isYear_161 : decode cL_isYear 161 = .ok (.iconst 1, 1) := by decide +kernel
theorem dL_isYear_162 : decode cL_isYear 162 = .ok (.if_icmp .ne 14, 3) := by decide +kernel
theorem dL_isYear_165 : decode cL_isYear 165 = .ok (.aload_n 0, 1) := by decide +kernel
theorem dL_isYear_166 : decode cL_isYear 166 = .ok (.iload_n 1, 1) := by decide +kernel
theorem dL_isYear_167 : decode cL_isYear 167 = .ok (.iload 6, 2) := by decide +kernel
theorem dL_isYear_169 : decode cL_isYear 169 = .ok (.isub, 1) := by decide +kernel
theorem dL_isYear_170 : decode cL_isYear 170 = .ok (.invokevirtual 109, 3) := by decide +kernel
theorem dL_isYear_173 : decode cL_isYear 173 = .ok (.goto 4, 3) := by decide +kernel
theorem dL_isYear_176 : decode cL_isYear 176 = .ok (.iconst (-1), 1) := by decide +kernel
theorem dL_isYear_177 : decode cL_isYear 177 = .ok (.if_icmp .ne 24, 3) := by decide +kernel
theorem dL_isYear_180 : decode cL_isYear 180 = .ok (.iload 5, 2) := by decide +kernel
theorem dL_isYear_182 : decode cL_isYear 182 = .ok (.ifCond .lt 15, 3) := by decide +kernel
theorem dL_isYear_185 : decode cL_isYear 185 = .ok (.iload 7, 2) := by decide +kernel
theorem dL_isYear_187 : decode cL_isYear 187 = .ok (.iconst 1, 1) := by decide +kernel
theorem dL_isYear_188 : decode cL_isYear 188 = .ok (.if_icmp .lt 13, 3) := by decide +kernel
theorem dL_isYear_191 : decode cL_isYear 191 = .ok (.iload 7, 2) := by decide +kernel
theorem dL_isYear_193 : decode cL_isYear 193 = .ok (.iload_n 1, 1) := by decide +kernel
theorem dL_isYear_194 : decode cL_isYear 194 = .ok (.if_icmp .gt 7, 3) := by decide +kernel
theorem dL_isYear_197 : decode cL_isYear 197 = .ok (.iconst 1, 1) := by decide +kernel
theorem dL_isYear_198 : decode cL_isYear 198 = .ok (.goto 4, 3) := by decide +kernel
theorem dL_isYear_201 : decode cL_isYear 201 = .ok (.iconst 0, 1) := by decide +kernel
theorem dL_isYear_202 : decode cL_isYear 202 = .ok (.ireturn, 1) := by decide +kernel
