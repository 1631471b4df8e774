theorem dJ9_floorMod_7cf53_0 : decode cJ9_floorMod_7cf53 0 = .ok (.iload_n 0, 1) := by decide +kernel
theorem dJ9_floorMod_7cf53_1 : decode cJ9_floorMod_7cf53 1 = .ok (.iload_n 1, 1) := by decide +kernel
theorem dJ9_floorMod_7cf53_2 : decode cJ9_floorMod_7cf53 2 = .ok (.irem, 1) := by decide +kernel
theorem dJ9_floorMod_7cf53_3 : decode cJ9_floorMod_7cf53 3 = .ok (.istore_n 2, 1) := by decide +kernel
theorem dJ9_floorMod_7cf53_4 : decode cJ9_floorMod_7cf53 4 = .ok (.iload_n 0, 1) := by decide +kernel
theorem dJ9_floorMod_7cf53_5 : decode cJ9_floorMod_7cf53 5 = .ok (.iload_n 1, 1) := by decide +kernel
theorem dJ9_floorMod_7cf53_6 : decode cJ9_floorMod_7cf53 6 = .ok (.ixor, 1) := by decide +kernel
theorem dJ9_floorMod_7cf53_7 : decode cJ9_floorMod_7cf53 7 = .ok (.ifCond .ge 11, 3) := by decide +kernel
theorem dJ9_floorMod_7cf53_10 : decode cJ9_floorMod_7cf53 10 = .ok (.iload_n 2, 1) := by decide +kernel
theorem dJ9_floorMod_7cf53_11 : decode cJ9_floorMod_7cf53 11 = .ok (.ifCond .eq 7, 3) := by decide +kernel
theorem dJ9_floorMod_7cf53_14 : decode cJ9_floorMod_7cf53 14 = .ok (.iload_n 2, 1) := by decide +kernel
theorem dJ9_floorMod_7cf53_15 : decode cJ9_floorMod_7cf53 15 = .ok (.iload_n 1, 1) := by decide +kernel
theorem dJ9_floorMod_7cf53_16 : decode cJ9_floorMod_7cf53 16 = .ok (.iadd, 1) := by decide +kernel
theorem dJ9_floorMod_7cf53_17 : decode cJ9_floorMod_7cf53 17 = .ok (.ireturn, 1) := by decide +kernel
theorem dJ9_floorMod_7cf53_18 : decode cJ9_floorMod_7cf53 18 = .ok (.iload_n 2, 1) := by decide +kernel
theorem dJ9_floorMod_7cf53_19 : decode cJ9_floorMod_7cf53 19 = .ok (.ireturn, 1) := by decide +kernel
theorem dJ9_min_7cf53_0 : decode cJ9_min_7cf53 0 = .ok (.iload_n 0, 1) := by decide +kernel
theorem dJ9_min_7cf53_1 : decode cJ9_min_7cf53 1 = .ok (.iload_n 1, 1) := by decide +kernel
theorem dJ9_min_7cf53_2 : decode cJ9_min_7cf53 2 = .ok (.if_icmp .gt 7, 3) := by decide +kernel
theorem dJ9_min_7cf53_5 : decode cJ9_min_7cf53 5 = .ok (.iload_n 0, 1) := by decide +kernel
theorem dJ9_min_7cf53_6 : decode cJ9_min_7cf53 6 = .ok (.goto 4, 3) := by decide +kernel
theorem dJ9_min_7cf53_9 : decode cJ9_min_7cf53 9 = .ok (.iload_n 1, 1) := by decide +kernel
theorem dJ9_min_7cf53_10 : decode cJ9_min_7cf53 10 = .ok (.ireturn, 1) := by decide +kernel
set_option maxRecDepth 20000 in
theorem ggL_number_X0_number : GoodIn wsL_number wsX0_number := goodIn_ca (goodIn_r _ [6, 7, 8, 5, 9, 10, 11, 12, 13, 14, 15, 16, 17, 18, 19, 20, 21, 22, 23, 24, 25, 26, 27, 28, 29, 30, 31, 32, 33, 34, 35] (by decide +kernel) (by decide +kernel)) (goodIn_sub (fun _ h => List.mem_cons_of_mem _ (List.mem_append_right _ h)) (by decide +kernel))
set_option maxRecDepth 20000 in
theorem gL_number_X0_number : GoodIn wsL_number (wsV RL 7 RX0 yX0_number wsX0_number) := goodIn_app (goodIn_of _ (by decide +kernel)) ggL_number_X0_number
theorem dL_number_0 : decode cL_number 0 = .ok (.aload 4, 2) := by decide +kernel
theorem dL_number_2 : decode cL_number 2 = .ok (.iconst 0, 1) := by decide +kernel
theorem dL_number_3 : decode cL_number 3 = .ok (.aload_n 0, 1) := by decide +kernel
theorem dL_number_4 : decode cL_number 4 = .ok (.iload_n 1, 1) := by decide +kernel
theorem dL_number_5 : decode cL_number 5 = .ok (.iload_n 2, 1) := by decide +kernel
theorem dL_number_6 : decode cL_number 6 = .ok (.iload_n 3, 1) := by decide +kernel
theorem dL_number_7 : decode cL_number 7 = .ok (.invokevirtual 7, 3) := by decide +kernel
theorem dL_number_10 : decode cL_number 10 = .ok (.i2l, 1) := by decide +kernel
theorem dL_number_11 : decode cL_number 11 = .ok (.lastore, 1) := by decide +kernel
theorem dL_number_12 : decode cL_number 12 = .ok (.goto 7, 3) := by decide +kernel
theorem dL_number_15 : decode cL_number 15 = .ok (.astore 5, 2) := by decide +kernel
theorem dL_number_17 : decode cL_number 17 = .ok (.iconst 1, 1) := by decide +kernel
theorem dL_number_18 : decode cL_number 18 = .ok (.ireturn, 1) := by decide +kernel
theorem dL_number_19 : decode cL_number 19 = .ok (.iconst 0, 1) := by decide +kernel
theorem dL_number_20 : decode cL_number 20 = .ok (.ireturn, 1) := by decide +kernel
set_option maxRecDepth 20000 in
theorem ggL_numberByCounting_X0_numberByCounting : GoodIn wsL_numberByCounting wsX0_numberByCounting := goodIn_ca (goodIn_r _ [6, 7, 8, 5, 9, 10, 11, 12, 13, 14, 15, 16, 17, 18, 19, 20, 21, 22, 23, 24, 25, 26, 27, 28, 29] (by decide +kernel) (by decide +kernel)) (goodIn_sub (fun _ h => List.mem_cons_of_mem _ (List.mem_append_right _ h)) (by decide +kernel))
set_option maxRecDepth 20000 in
theorem gL_numberByCounting_X0_numberByCounting : GoodIn wsL_numberByCounting (wsV RL 15 RX0 yX0_numberByCounting wsX0_numberByCounting) := goodIn_app (goodIn_of _ (by decide +kernel)) ggL_numberByCounting_X0_numberByCounting
theorem dL_numberByCounting_0 : decode cL_numberByCounting 0 = .ok (.aload 4, 2) := by decide +kernel
theorem dL_numberByCounting_2 : decode cL_numberByCounting 2 = .ok (.iconst 0, 1) := by decide +kernel
theorem dL_numberByCounting_3 : decode cL_numberByCounting 3 = .ok (.aload_n 0, 1) := by decide +kernel
theorem dL_numberByCounting_4 : decode cL_numberByCounting 4 = .ok (.iload_n 1, 1) := by decide +kernel
theorem dL_numberByCounting_5 : decode cL_numberByCounting 5 = .ok (.iload_n 2, 1) := by decide +kernel
theorem dL_numberByCounting_6 : decode cL_numberByCounting 6 = .ok (.iload_n 3, 1) := by decide +kernel
theorem dL_numberByCounting_7 : decode cL_numberByCounting 7 = .ok (.invokevirtual 15, 3) := by decide +kernel
theorem dL_numberByCounting_10 : decode cL_numberByCounting 10 = .ok (.i2l, 1) := by decide +kernel
theorem dL_numberByCounting_11 : decode cL_numberByCounting 11 = .ok (.lastore, 1) := by decide +kernel
theorem dL_numberByCounting_12 : decode cL_numberByCounting 12 = .ok (.goto 7, 3) := by decide +kernel
theorem dL_numberByCounting_15 : decode cL_numberByCounting 15 = .ok (.astore 5, 2) := by decide +kernel
theorem dL_numberByCounting_17 : decode cL_numberByCounting 17 = .ok (.iconst 1, 1) := by decide +kernel
theorem dL_numberByCounting_18 : decode cL_numberByCounting 18 = .ok (.ireturn, 1) := by decide +kernel
theorem dL_numberByCounting_19 : decode cL_numberByCounting 19 = .ok (.iconst 0, 1) := by decide +kernel
theorem dL_numberByCounting_20 : decode cL_numberByCounting 20 = .ok (.ireturn, 1) := by decide +kernel
set_option maxRecDepth 20000 in
theorem ggL_yearOf_X0_yearOf : GoodIn wsL_yearOf wsX0_yearOf := goodIn_ca (goodIn_r _ [6, 7, 8, 5, 9, 10, 11, 12, 13, 14, 15, 16, 17, 18, 19] (by decide +kernel) (by decide +kernel)) (goodIn_sub (fun _ h => List.mem_cons_of_mem _ (List.mem_append_right _ h)) (by decide +kernel))
set_option maxRecDepth 20000 in
theorem gL_yearOf_X0_yearOf : GoodIn wsL_yearOf (wsV RL 18 RX0 yX0_yearOf wsX0_yearOf) := goodIn_app (goodIn_of _ (by decide +kernel)) ggL_yearOf_X0_yearOf
theorem dL_yearOf_0 : decode cL_yearOf 0 = .ok (.aload_n 2, 1) := by decide +kernel
theorem dL_yearOf_1 : decode cL_yearOf 1 = .ok (.iconst 0, 1) := by decide +kernel
theorem dL_yearOf_2 : decode cL_yearOf 2 = .ok (.aload_n 0, 1) := by decide +kernel
theorem dL_yearOf_3 : decode cL_yearOf 3 = .ok (.iload_n 1, 1) := by decide +kernel
theorem dL_yearOf_4 : decode cL_yearOf 4 = .ok (.invokevirtual 18, 3) := by decide +kernel
theorem dL_yearOf_7 : decode cL_yearOf 7 = .ok (.i2l, 1) := by decide +kernel
theorem dL_yearOf_8 : decode cL_yearOf 8 = .ok (.lastore, 1) := by decide +kernel
theorem dL_yearOf_9 : decode cL_yearOf 9 = .ok (.goto 6, 3) := by decide +kernel
theorem dL_yearOf_12 : decode cL_yearOf 12 = .ok (.astore_n 3, 1) := by decide +kernel
theorem dL_yearOf_13 : decode cL_yearOf 13 = .ok (.iconst 1, 1) := by decide +kernel
theorem dL_yearOf_14 : decode cL_yearOf 14 = .ok (.ireturn, 1) := by decide +kernel
theorem dL_yearOf_15 : decode cL_yearOf 15 = .ok (.iconst 0, 1) := by decide +kernel
theorem dL_yearOf_16 : decode cL_yearOf 16 = .ok (.ireturn, 1) := by decide +kernel
set_option maxRecDepth 20000 in
theorem ggL_monthOf_X0_monthOf : GoodIn wsL_monthOf wsX0_monthOf := goodIn_ca (goodIn_r _ [6, 7, 8, 5, 9, 10, 11, 12, 13, 14, 15, 16, 17, 18, 19, 20, 21, 22, 23, 24, 25, 26, 27] (by decide +kernel) (by decide +kernel)) (goodIn_sub (fun _ h => List.mem_cons_of_mem _ (List.mem_append_right _ h)) (by decide +kernel))
set_option maxRecDepth 20000 in
theorem gL_monthOf_X0_monthOf : GoodIn wsL_monthOf (wsV RL 22 RX0 yX0_monthOf wsX0_monthOf) := goodIn_app (goodIn_of _ (by decide +kernel)) ggL_monthOf_X0_monthOf
theorem dL_monthOf_0 : decode cL_monthOf 0 = .ok (.aload_n 2, 1) := by decide +kernel
theorem dL_monthOf_1 : decode cL_monthOf 1 = .ok (.iconst 0, 1) := by decide +kernel
theorem dL_monthOf_2 : decode cL_monthOf 2 = .ok (.aload_n 0, 1) := by decide +kernel
theorem dL_monthOf_3 : decode cL_monthOf 3 = .ok (.iload_n 1, 1) := by decide +kernel
theorem dL_monthOf_4 : decode cL_monthOf 4 = .ok (.invokevirtual 22, 3) := by decide +kernel
theorem dL_monthOf_7 : decode cL_monthOf 7 = .ok (.i2l, 1) := by decide +kernel
theorem dL_monthOf_8 : decode cL_monthOf 8 = .ok (.lastore, 1) := by decide +kernel
theorem dL_monthOf_9 : decode cL_monthOf 9 = .ok (.goto 6, 3) := by decide +kernel
theorem dL_monthOf_12 : decode cL_monthOf 12 = .ok (.astore_n 3, 1) := by decide +kernel
theorem dL_monthOf_13 : decode cL_monthOf 13 = .ok (.iconst 1, 1) := by decide +kernel
theorem dL_monthOf_14 : decode cL_monthOf 14 = .ok (.ireturn, 1) := by decide +kernel
theorem dL_monthOf_15 : decode cL_monthOf 15 = .ok (.iconst 0, 1) := by decide +kernel
theorem dL_monthOf_16 : decode cL_monthOf 16 = .ok (.ireturn, 1) := by decide +kernel
set_option maxRecDepth 20000 in
theorem ggL_dayOf_X0_dayOf : GoodIn wsL_dayOf wsX0_dayOf := goodIn_ca (goodIn_r _ [6, 7, 8, 5, 9, 10, 11, 12, 13, 14, 15, 16, 17, 18, 19, 20, 21, 22, 23, 24, 25, 26, 27, 28, 29, 30, 31, 32, 33, 34, 35, 36, 37, 38, 39, 40, 41, 42, 43, 44, 45, 46] (by decide +kernel) (by decide +kernel)) (goodIn_sub (fun _ h => List.mem_cons_of_mem _ (List.mem_append_right _ h)) (by decide +kernel))
set_option maxRecDepth 20000 in
theorem gL_dayOf_X0_dayOf : GoodIn wsL_dayOf (wsV RL 25 RX0 yX0_dayOf wsX0_dayOf) := goodIn_app (goodIn_of _ (by decide +kernel)) ggL_dayOf_X0_dayOf
theorem dL_dayOf_0 : decode cL_dayOf 0 = .ok (.aload_n 2, 1) := by decide +kernel
theorem dL_dayOf_1 : decode cL_dayOf 1 = .ok (.iconst 0, 1) := by decide +kernel
theorem dL_dayOf_2 : decode cL_dayOf 2 = .ok (.aload_n 0, 1) := by decide +kernel
theorem dL_dayOf_3 : decode cL_dayOf 3 = .ok (.iload_n 1, 1) := by decide +kernel
theorem dL_dayOf_4 : decode cL_dayOf 4 = .ok (.invokevirtual 25, 3) := by decide +kernel
theorem dL_dayOf_7 : decode cL_dayOf 7 = .ok (.i2l, 1) := by decide +kernel
theorem dL_dayOf_8 : decode cL_dayOf 8 = .ok (.lastore, 1) := by decide +kernel
theorem dL_dayOf_9 : decode cL_dayOf 9 = .ok (.goto 6, 3) := by decide +kernel
theorem dL_dayOf_12 : decode cL_dayOf 12 = .ok (.astore_n 3, 1) := by decide +kernel
theorem dL_dayOf_13 : decode cL_dayOf 13 = .ok (.iconst 1, 1) := by decide +kernel
theorem dL_dayOf_14 : decode cL_dayOf 14 = .ok (.ireturn, 1) := by decide +kernel
theorem dL_dayOf_15 : decode cL_dayOf 15 = .ok (.iconst 0, 1) := by decide +kernel
theorem dL_dayOf_16 : decode cL_dayOf 16 = .ok (.ireturn, 1) := by decide +kernel
set_option maxRecDepth 20000 in
theorem ggL_weekdayOf_X0_weekdayOf : GoodIn wsL_weekdayOf wsX0_weekdayOf := goodIn_ca (goodIn_r _ [6, 7, 8, 5, 9, 10, 11, 12] (by decide +kernel) (by decide +kernel)) (goodIn_sub (fun _ h => List.mem_cons_of_mem _ (List.mem_append_right _ h)) (by decide +kernel))
set_option maxRecDepth 20000 in
theorem gL_weekdayOf_X0_weekdayOf : GoodIn wsL_weekdayOf (wsV RL 28 RX0 yX0_weekdayOf wsX0_weekdayOf) := goodIn_app (goodIn_of _ (by decide +kernel)) ggL_weekdayOf_X0_weekdayOf
theorem dL_weekdayOf_0 : decode cL_weekdayOf 0 = .ok (.aload_n 2, 1) := by decide +kernel
theorem dL_weekdayOf_1 : decode cL_weekdayOf 1 = .ok (.iconst 0, 1) := by decide +kernel
theorem dL_weekdayOf_2 : decode cL_weekdayOf 2 = .ok (.aload_n 0, 1) := by decide +kernel
theorem dL_weekdayOf_3 : decode cL_weekdayOf 3 = .ok (.iload_n 1, 1) := by decide +kernel
theorem dL_weekdayOf_4 : decode cL_weekdayOf 4 = .ok (.invokevirtual 28, 3) := by decide +kernel
theorem dL_weekdayOf_7 : decode cL_weekdayOf 7 = .ok (.i2l, 1) := by decide +kernel
theorem dL_weekdayOf_8 : decode cL_weekdayOf 8 = .ok (.lastore, 1) := by decide +kernel
theorem dL_weekdayOf_9 : decode cL_weekdayOf 9 = .ok (.goto 6, 3) := by decide +kernel
theorem dL_weekdayOf_12 : decode cL_weekdayOf 12 = .ok (.astore_n 3, 1) := by decide +kernel
theorem dL_weekdayOf_13 : decode cL_weekdayOf 13 = .ok (.iconst 1, 1) := by decide +kernel
theorem dL_weekdayOf_14 : decode cL_weekdayOf 14 = .ok (.ireturn, 1) := by decide +kernel
theorem dL_weekdayOf_15 : decode cL_weekdayOf 15 = .ok (.iconst 0, 1) := by decide +kernel
theorem dL_weekdayOf_16 : decode cL_weekdayOf 16 = .ok (.ireturn, 1) := by decide +kernel
set_option maxRecDepth 20000 in
theorem ggL_anchorOf_X0_anchorOf : GoodIn wsL_anchorOf wsX0_anchorOf := goodIn_ca (goodIn_r _ [6, 7, 8, 5, 9, 10, 11, 12, 13, 14, 15, 16, 17, 18, 19, 20, 21, 22, 23, 24, 25, 26, 27, 28, 29, 30, 31, 32, 33, 34, 35, 36, 37, 38, 39, 40, 41, 42] (by decide +kernel) (by decide +kernel)) (goodIn_sub (fun _ h => List.mem_cons_of_mem _ (List.mem_append_right _ h)) (by decide +kernel))
set_option maxRecDepth 20000 in
theorem gL_anchorOf_X0_anchorOf : GoodIn wsL_anchorOf (wsV RL 31 RX0 yX0_anchorOf wsX0_anchorOf) := goodIn_app (goodIn_of _ (by decide +kernel)) ggL_anchorOf_X0_anchorOf
theorem dL_anchorOf_0 : decode cL_anchorOf 0 = .ok (.aload_n 2, 1) := by decide +kernel
theorem dL_anchorOf_1 : decode cL_anchorOf 1 = .ok (.iconst 0, 1) := by decide +kernel
theorem dL_anchorOf_2 : decode cL_anchorOf 2 = .ok (.aload_n 0, 1) := by decide +kernel
theorem dL_anchorOf_3 : decode cL_anchorOf 3 = .ok (.iload_n 1, 1) := by decide +kernel
theorem dL_anchorOf_4 : decode cL_anchorOf 4 = .ok (.invokevirtual 31, 3) := by decide +kernel
theorem dL_anchorOf_7 : decode cL_anchorOf 7 = .ok (.i2l, 1) := by decide +kernel
theorem dL_anchorOf_8 : decode cL_anchorOf 8 = .ok (.lastore, 1) := by decide +kernel
theorem dL_anchorOf_9 : decode cL_anchorOf 9 = .ok (.goto 6, 3) := by decide +kernel
theorem dL_anchorOf_12 : decode cL_anchorOf 12 = .ok (.astore_n 3, 1) := by decide +kernel
theorem dL_anchorOf_13 : decode cL_anchorOf 13 = .ok (.iconst 1, 1) := by decide +kernel
theorem dL_anchorOf_14 : decode cL_anchorOf 14 = .ok (.ireturn, 1) := by decide +kernel
theorem dL_anchorOf_15 : decode cL_anchorOf 15 = .ok (.iconst 0, 1) := by decide +kernel
theorem dL_anchorOf_16 : decode cL_anchorOf 16 = .ok (.ireturn, 1) := by decide +kernel
set_option maxRecDepth 20000 in
theorem ggL_anchorMonthOf_X0_anchorMonthOf : GoodIn wsL_anchorMonthOf wsX0_anchorMonthOf := goodIn_ca (goodIn_r _ [6, 7, 8, 5, 9, 10, 11, 12, 13, 14, 15, 16, 17, 18, 19, 20, 21, 22, 23, 24, 25, 26, 27, 28, 29, 30, 31, 32, 33, 34, 35, 36, 37, 38, 39] (by decide +kernel) (by decide +kernel)) (goodIn_sub (fun _ h => List.mem_cons_of_mem _ (List.mem_append_right _ h)) (by decide +kernel))
set_option maxRecDepth 20000 in
theorem gL_anchorMonthOf_X0_anchorMonthOf : GoodIn wsL_anchorMonthOf (wsV RL 34 RX0 yX0_anchorMonthOf wsX0_anchorMonthOf) := goodIn_app (goodIn_of _ (by decide +kernel)) ggL_anchorMonthOf_X0_anchorMonthOf
theorem dL_anchorMonthOf_0 : decode cL_anchorMonthOf 0 = .ok (.aload_n 2, 1) := by decide +kernel
theorem dL_anchorMonthOf_1 : decode cL_anchorMonthOf 1 = .ok (.iconst 0, 1) := by decide +kernel
theorem dL_anchorMonthOf_2 : decode cL_anchorMonthOf 2 = .ok (.aload_n 0, 1) := by decide +kernel
theorem dL_anchorMonthOf_3 : decode cL_anchorMonthOf 3 = .ok (.iload_n 1, 1) := by decide +kernel
theorem dL_anchorMonthOf_4 : decode cL_anchorMonthOf 4 = .ok (.invokevirtual 34, 3) := by decide +kernel
theorem dL_anchorMonthOf_7 : decode cL_anchorMonthOf 7 = .ok (.i2l, 1) := by decide +kernel
theorem dL_anchorMonthOf_8 : decode cL_anchorMonthOf 8 = .ok (.lastore, 1) := by decide +kernel
theorem dL_anchorMonthOf_9 : decode cL_anchorMonthOf 9 = .ok (.goto 6, 3) := by decide +kernel
theorem dL_anchorMonthOf_12 : decode cL_anchorMonthOf 12 = .ok (.astore_n 3, 1) := by decide +kernel
theorem dL_anchorMonthOf_13 : decode cL_anchorMonthOf 13 = .ok (.iconst 1, 1) := by decide +kernel
theorem dL_anchorMonthOf_14 : decode cL_anchorMonthOf 14 = .ok (.ireturn, 1) := by decide +kernel
theorem dL_anchorMonthOf_15 : decode cL_anchorMonthOf 15 = .ok (.iconst 0, 1) := by decide +kernel
theorem dL_anchorMonthOf_16 : decode cL_anchorMonthOf 16 = .ok (.ireturn, 1) := by decide +kernel
set_option maxRecDepth 20000 in
theorem ggL_countOf_X0_countOf : GoodIn wsL_countOf wsX0_countOf := goodIn_ca (goodIn_r _ [6, 7, 8, 5, 9, 10, 11, 12, 13, 14, 15, 16, 17, 18, 19, 20, 21, 22, 23, 24, 25, 26, 27, 28, 29, 30, 31, 32, 33, 34, 35, 36, 37, 38, 39, 40, 41, 42] (by decide +kernel) (by decide +kernel)) (goodIn_sub (fun _ h => List.mem_cons_of_mem _ (List.mem_append_right _ h)) (by decide +kernel))
set_option maxRecDepth 20000 in
theorem gL_countOf_X0_countOf : GoodIn wsL_countOf (wsV RL 37 RX0 yX0_countOf wsX0_countOf) := goodIn_app (goodIn_of _ (by decide +kernel)) ggL_countOf_X0_countOf
theorem dL_countOf_0 : decode cL_countOf 0 = .ok (.aload_n 2, 1) := by decide +kernel
theorem dL_countOf_1 : decode cL_countOf 1 = .ok (.iconst 0, 1) := by decide +kernel
theorem dL_countOf_2 : decode cL_countOf 2 = .ok (.aload_n 0, 1) := by decide +kernel
theorem dL_countOf_3 : decode cL_countOf 3 = .ok (.iload_n 1, 1) := by decide +kernel
theorem dL_countOf_4 : decode cL_countOf 4 = .ok (.invokevirtual 37, 3) := by decide +kernel
theorem dL_countOf_7 : decode cL_countOf 7 = .ok (.i2l, 1) := by decide +kernel
theorem dL_countOf_8 : decode cL_countOf 8 = .ok (.lastore, 1) := by decide +kernel
theorem dL_countOf_9 : decode cL_countOf 9 = .ok (.goto 6, 3) := by decide +kernel
theorem dL_countOf_12 : decode cL_countOf 12 = .ok (.astore_n 3, 1) := by decide +kernel
theorem dL_countOf_13 : decode cL_countOf 13 = .ok (.iconst 1, 1) := by decide +kernel
theorem dL_countOf_14 : decode cL_countOf 14 = .ok (.ireturn, 1) := by decide +kernel
theorem dL_countOf_15 : decode cL_countOf 15 = .ok (.iconst 0, 1) := by decide +kernel
theorem dL_countOf_16 : decode cL_countOf 16 = .ok (.ireturn, 1) := by decide +kernel
set_option maxRecDepth 20000 in
theorem ggL_isDoubled_X0_isDoubled : GoodIn wsL_isDoubled wsX0_isDoubled := goodIn_ca (goodIn_r _ [6, 7, 8, 5, 9, 10, 11, 12] (by decide +kernel) (by decide +kernel)) (goodIn_sub (fun _ h => List.mem_cons_of_mem _ (List.mem_append_right _ h)) (by decide +kernel))
set_option maxRecDepth 20000 in
theorem gL_isDoubled_X0_isDoubled : GoodIn wsL_isDoubled (wsV RL 40 RX0 yX0_isDoubled wsX0_isDoubled) := goodIn_app (goodIn_of _ (by decide +kernel)) ggL_isDoubled_X0_isDoubled
theorem dL_isDoubled_0 : decode cL_isDoubled 0 = .ok (.aload_n 2, 1) := by decide +kernel
theorem dL_isDoubled_1 : decode cL_isDoubled 1 = .ok (.iconst 0, 1) := by decide +kernel
theorem dL_isDoubled_2 : decode cL_isDoubled 2 = .ok (.aload_n 0, 1) := by decide +kernel
theorem dL_isDoubled_3 : decode cL_isDoubled 3 = .ok (.iload_n 1, 1) := by decide +kernel
theorem dL_isDoubled_4 : decode cL_isDoubled 4 = .ok (.invokevirtual 40, 3) := by decide +kernel
theorem dL_isDoubled_7 : decode cL_isDoubled 7 = .ok (.ifCond .eq 7, 3) := by decide +kernel
theorem dL_isDoubled_10 : decode cL_isDoubled 10 = .ok (.lconst 1, 1) := by decide +kernel
theorem dL_isDoubled_11 : decode cL_isDoubled 11 = .ok (.goto 4, 3) := by decide +kernel
theorem dL_isDoubled_14 : decode cL_isDoubled 14 = .ok (.lconst 0, 1) := by decide +kernel
theorem dL_isDoubled_15 : decode cL_isDoubled 15 = .ok (.lastore, 1) := by decide +kernel
theorem dL_isDoubled_16 : decode cL_isDoubled 16 = .ok (.goto 6, 3) := by decide +kernel
theorem dL_isDoubled_19 : decode cL_isDoubled 19 = .ok (.astore_n 3, 1) := by decide +kernel
theorem dL_isDoubled_20 : decode cL_isDoubled 20 = .ok (.iconst 1, 1) := by decide +kernel
theorem dL_isDoubled_21 : decode cL_isDoubled 21 = .ok (.ireturn, 1) := by decide +kernel
theorem dL_isDoubled_22 : decode cL_isDoubled 22 = .ok (.iconst 0, 1) := by decide +kernel
theorem dL_isDoubled_23 : decode cL_isDoubled 23 = .ok (.ireturn, 1) := by decide +kernel
set_option maxRecDepth 20000 in
theorem ggL_fromCount_X0_fromCount : GoodIn wsL_fromCount wsX0_fromCount := goodIn_ca (goodIn_ca (goodIn_ca (goodIn_r _ [8, 9, 10, 11, 12, 13, 14, 7, 15, 16, 17, 18, 19, 20, 21, 22, 23, 24, 25, 26, 27, 28, 29, 30, 31, 32, 33, 34, 35, 36, 37, 38, 39, 40, 41, 42, 43, 44, 45, 46, 47, 48, 49, 50] (by decide +kernel) (by decide +kernel)) (goodIn_sub (fun _ h => List.mem_cons_of_mem _ (List.mem_append_left _ (List.mem_append_left _ (List.mem_append_right _ h)))) (by decide +kernel))) (goodIn_sub (fun _ h => List.mem_cons_of_mem _ (List.mem_append_left _ (List.mem_append_right _ h))) (by decide +kernel))) (goodIn_sub (fun _ h => List.mem_cons_of_mem _ (List.mem_append_right _ h)) (by decide +kernel))
set_option maxRecDepth 20000 in
theorem gL_fromCount_X0_fromCount : GoodIn wsL_fromCount (wsV RL 44 RX0 yX0_fromCount wsX0_fromCount) := goodIn_app (goodIn_of _ (by decide +kernel)) ggL_fromCount_X0_fromCount
theorem dL_fromCount_0 : decode cL_fromCount 0 = .ok (.aload 6, 2) := by decide +kernel
theorem dL_fromCount_2 : decode cL_fromCount 2 = .ok (.iconst 0, 1) := by decide +kernel
theorem dL_fromCount_3 : decode cL_fromCount 3 = .ok (.aload_n 0, 1) := by decide +kernel
theorem dL_fromCount_4 : decode cL_fromCount 4 = .ok (.iload_n 1, 1) := by decide +kernel
theorem dL_fromCount_5 : decode cL_fromCount 5 = .ok (.iload_n 2, 1) := by decide +kernel
theorem dL_fromCount_6 : decode cL_fromCount 6 = .ok (.iload_n 3, 1) := by decide +kernel
theorem dL_fromCount_7 : decode cL_fromCount 7 = .ok (.iload 4, 2) := by decide +kernel
theorem dL_fromCount_9 : decode cL_fromCount 9 = .ok (.iload 5, 2) := by decide +kernel
theorem dL_fromCount_11 : decode cL_fromCount 11 = .ok (.invokevirtual 44, 3) := by decide +kernel
theorem dL_fromCount_14 : decode cL_fromCount 14 = .ok (.i2l, 1) := by decide +kernel
theorem dL_fromCount_15 : decode cL_fromCount 15 = .ok (.lastore, 1) := by decide +kernel
theorem dL_fromCount_16 : decode cL_fromCount 16 = .ok (.goto 15, 3) := by decide +kernel
theorem dL_fromCount_19 : decode cL_fromCount 19 = .ok (.astore 7, 2) := by decide +kernel
theorem dL_fromCount_21 : decode cL_fromCount 21 = .ok (.iconst 1, 1) := by decide +kernel
theorem dL_fromCount_22 : decode cL_fromCount 22 = .ok (.ireturn, 1) := by decide +kernel
theorem dL_fromCount_23 : decode cL_fromCount 23 = .ok (.astore 7, 2) := by decide +kernel
theorem dL_fromCount_25 : decode cL_fromCount 25 = .ok (.iconst 2, 1) := by decide +kernel
theorem dL_fromCount_26 : decode cL_fromCount 26 = .ok (.ireturn, 1) := by decide +kernel
theorem dL_fromCount_27 : decode cL_fromCount 27 = .ok (.astore 7, 2) := by decide +kernel
theorem dL_fromCount_29 : decode cL_fromCount 29 = .ok (.iconst 3, 1) := by decide +kernel
theorem dL_fromCount_30 : decode cL_fromCount 30 = .ok (.ireturn, 1) := by decide +kernel
theorem dL_fromCount_31 : decode cL_fromCount 31 = .ok (.iconst 0, 1) := by decide +kernel
theorem dL_fromCount_32 : decode cL_fromCount 32 = .ok (.ireturn, 1) := by decide +kernel
set_option maxRecDepth 20000 in
theorem ggL_greatestCount_X0_greatestCount : GoodIn wsL_greatestCount wsX0_greatestCount := goodIn_ca (goodIn_ca (goodIn_r _ [7, 8, 9, 6, 10, 11, 12, 13, 14, 15, 16, 17, 18, 19, 20, 21, 22, 23, 24, 25, 26, 27, 28, 29] (by decide +kernel) (by decide +kernel)) (goodIn_sub (fun _ h => List.mem_cons_of_mem _ (List.mem_append_left _ (List.mem_append_right _ h))) (by decide +kernel))) (goodIn_sub (fun _ h => List.mem_cons_of_mem _ (List.mem_append_right _ h)) (by decide +kernel))
set_option maxRecDepth 20000 in
theorem gL_greatestCount_X0_greatestCount : GoodIn wsL_greatestCount (wsV RL 52 RX0 yX0_greatestCount wsX0_greatestCount) := goodIn_app (goodIn_of _ (by decide +kernel)) ggL_greatestCount_X0_greatestCount
theorem dL_greatestCount_0 : decode cL_greatestCount 0 = .ok (.aload 4, 2) := by decide +kernel
theorem dL_greatestCount_2 : decode cL_greatestCount 2 = .ok (.iconst 0, 1) := by decide +kernel
theorem dL_greatestCount_3 : decode cL_greatestCount 3 = .ok (.aload_n 0, 1) := by decide +kernel
theorem dL_greatestCount_4 : decode cL_greatestCount 4 = .ok (.iload_n 1, 1) := by decide +kernel
theorem dL_greatestCount_5 : decode cL_greatestCount 5 = .ok (.iload_n 2, 1) := by decide +kernel
theorem dL_greatestCount_6 : decode cL_greatestCount 6 = .ok (.iload_n 3, 1) := by decide +kernel
theorem dL_greatestCount_7 : decode cL_greatestCount 7 = .ok (.invokevirtual 52, 3) := by decide +kernel
theorem dL_greatestCount_10 : decode cL_greatestCount 10 = .ok (.i2l, 1) := by decide +kernel
theorem dL_greatestCount_11 : decode cL_greatestCount 11 = .ok (.lastore, 1) := by decide +kernel
theorem dL_greatestCount_12 : decode cL_greatestCount 12 = .ok (.goto 11, 3) := by decide +kernel
theorem dL_greatestCount_15 : decode cL_greatestCount 15 = .ok (.astore 5, 2) := by decide +kernel
theorem dL_greatestCount_17 : decode cL_greatestCount 17 = .ok (.iconst 1, 1) := by decide +kernel
theorem dL_greatestCount_18 : decode cL_greatestCount 18 = .ok (.ireturn, 1) := by decide +kernel
theorem dL_greatestCount_19 : decode cL_greatestCount 19 = .ok (.astore 5, 2) := by decide +kernel
theorem dL_greatestCount_21 : decode cL_greatestCount 21 = .ok (.iconst 2, 1) := by decide +kernel
theorem dL_greatestCount_22 : decode cL_greatestCount 22 = .ok (.ireturn, 1) := by decide +kernel
theorem dL_greatestCount_23 : decode cL_greatestCount 23 = .ok (.iconst 0, 1) := by decide +kernel
theorem dL_greatestCount_24 : decode cL_greatestCount 24 = .ok (.ireturn, 1) := by decide +kernel
set_option maxRecDepth 20000 in
theorem ggL_lawNumber_X0_lawNumber : GoodIn wsL_lawNumber wsX0_lawNumber := goodIn_ca (goodIn_r _ [6, 7, 8, 5, 9, 10, 11, 12, 13, 14, 15, 16, 17, 18] (by decide +kernel) (by decide +kernel)) (goodIn_sub (fun _ h => List.mem_cons_of_mem _ (List.mem_append_right _ h)) (by decide +kernel))
set_option maxRecDepth 20000 in
theorem gL_lawNumber_X0_lawNumber : GoodIn wsL_lawNumber (wsV RL 55 RX0 yX0_lawNumber wsX0_lawNumber) := goodIn_app (goodIn_of _ (by decide +kernel)) ggL_lawNumber_X0_lawNumber
theorem dL_lawNumber_0 : decode cL_lawNumber 0 = .ok (.aload_n 2, 1) := by decide +kernel
theorem dL_lawNumber_1 : decode cL_lawNumber 1 = .ok (.iconst 0, 1) := by decide +kernel
theorem dL_lawNumber_2 : decode cL_lawNumber 2 = .ok (.aload_n 0, 1) := by decide +kernel
theorem dL_lawNumber_3 : decode cL_lawNumber 3 = .ok (.iload_n 1, 1) := by decide +kernel
theorem dL_lawNumber_4 : decode cL_lawNumber 4 = .ok (.invokevirtual 55, 3) := by decide +kernel
theorem dL_lawNumber_7 : decode cL_lawNumber 7 = .ok (.i2l, 1) := by decide +kernel
theorem dL_lawNumber_8 : decode cL_lawNumber 8 = .ok (.lastore, 1) := by decide +kernel
theorem dL_lawNumber_9 : decode cL_lawNumber 9 = .ok (.goto 6, 3) := by decide +kernel
theorem dL_lawNumber_12 : decode cL_lawNumber 12 = .ok (.astore_n 3, 1) := by decide +kernel
theorem dL_lawNumber_13 : decode cL_lawNumber 13 = .ok (.iconst 1, 1) := by decide +kernel
theorem dL_lawNumber_14 : decode cL_lawNumber 14 = .ok (.ireturn, 1) := by decide +kernel
theorem dL_lawNumber_15 : decode cL_lawNumber 15 = .ok (.iconst 0, 1) := by decide +kernel
theorem dL_lawNumber_16 : decode cL_lawNumber 16 = .ok (.ireturn, 1) := by decide +kernel
set_option maxRecDepth 20000 in
theorem ggL_termEnd_X0_termEnd : GoodIn wsL_termEnd wsX0_termEnd := goodIn_ca (goodIn_ca (goodIn_ca (goodIn_r _ [8, 9, 10, 11, 12, 13, 14, 15, 16, 7, 17, 18, 19, 20, 21, 22, 23, 24, 25, 26, 27, 28, 29, 30, 31, 32, 33, 34, 35] (by decide +kernel) (by decide +kernel)) (goodIn_sub (fun _ h => List.mem_cons_of_mem _ (List.mem_append_left _ (List.mem_append_left _ (List.mem_append_right _ h)))) (by decide +kernel))) (goodIn_sub (fun _ h => List.mem_cons_of_mem _ (List.mem_append_left _ (List.mem_append_right _ h))) (by decide +kernel))) (goodIn_sub (fun _ h => List.mem_cons_of_mem _ (List.mem_append_right _ h)) (by decide +kernel))
set_option maxRecDepth 20000 in
theorem gL_termEnd_X0_termEnd : GoodIn wsL_termEnd (wsV RL 58 RX0 yX0_termEnd wsX0_termEnd) := goodIn_app (goodIn_of _ (by decide +kernel)) ggL_termEnd_X0_termEnd
theorem dL_termEnd_0 : decode cL_termEnd 0 = .ok (.aload_n 3, 1) := by decide +kernel
theorem dL_termEnd_1 : decode cL_termEnd 1 = .ok (.iconst 0, 1) := by decide +kernel
theorem dL_termEnd_2 : decode cL_termEnd 2 = .ok (.aload_n 0, 1) := by decide +kernel
theorem dL_termEnd_3 : decode cL_termEnd 3 = .ok (.iload_n 1, 1) := by decide +kernel
theorem dL_termEnd_4 : decode cL_termEnd 4 = .ok (.iload_n 2, 1) := by decide +kernel
theorem dL_termEnd_5 : decode cL_termEnd 5 = .ok (.invokevirtual 58, 3) := by decide +kernel
theorem dL_termEnd_8 : decode cL_termEnd 8 = .ok (.i2l, 1) := by decide +kernel
theorem dL_termEnd_9 : decode cL_termEnd 9 = .ok (.lastore, 1) := by decide +kernel
theorem dL_termEnd_10 : decode cL_termEnd 10 = .ok (.goto 15, 3) := by decide +kernel
theorem dL_termEnd_13 : decode cL_termEnd 13 = .ok (.astore 4, 2) := by decide +kernel
theorem dL_termEnd_15 : decode cL_termEnd 15 = .ok (.iconst 1, 1) := by decide +kernel
theorem dL_termEnd_16 : decode cL_termEnd 16 = .ok (.ireturn, 1) := by decide +kernel
theorem dL_termEnd_17 : decode cL_termEnd 17 = .ok (.astore 4, 2) := by decide +kernel
theorem dL_termEnd_19 : decode cL_termEnd 19 = .ok (.iconst 2, 1) := by decide +kernel
theorem dL_termEnd_20 : decode cL_termEnd 20 = .ok (.ireturn, 1) := by decide +kernel
theorem dL_termEnd_21 : decode cL_termEnd 21 = .ok (.astore 4, 2) := by decide +kernel
theorem dL_termEnd_23 : decode cL_termEnd 23 = .ok (.iconst 3, 1) := by decide +kernel
theorem dL_termEnd_24 : decode cL_termEnd 24 = .ok (.ireturn, 1) := by decide +kernel
theorem dL_termEnd_25 : decode cL_termEnd 25 = .ok (.iconst 0, 1) := by decide +kernel
theorem dL_termEnd_26 : decode cL_termEnd 26 = .ok (.ireturn, 1) := by decide +kernel
set_option maxRecDepth 20000 in
theorem ggL_lawDays_X0_lawDays : GoodIn wsL_lawDays wsX0_lawDays := goodIn_ca (goodIn_r _ [6, 7, 8, 5, 9, 10, 11, 12, 13, 14, 15, 16, 17, 18] (by decide +kernel) (by decide +kernel)) (goodIn_sub (fun _ h => List.mem_cons_of_mem _ (List.mem_append_right _ h)) (by decide +kernel))
set_option maxRecDepth 20000 in
theorem gL_lawDays_X0_lawDays : GoodIn wsL_lawDays (wsV RL 62 RX0 yX0_lawDays wsX0_lawDays) := goodIn_app (goodIn_of _ (by decide +kernel)) ggL_lawDays_X0_lawDays
theorem dL_lawDays_0 : decode cL_lawDays 0 = .ok (.aload_n 3, 1) := by decide +kernel
theorem dL_lawDays_1 : decode cL_lawDays 1 = .ok (.iconst 0, 1) := by decide +kernel
theorem dL_lawDays_2 : decode cL_lawDays 2 = .ok (.aload_n 0, 1) := by decide +kernel
theorem dL_lawDays_3 : decode cL_lawDays 3 = .ok (.iload_n 1, 1) := by decide +kernel
theorem dL_lawDays_4 : decode cL_lawDays 4 = .ok (.iload_n 2, 1) := by decide +kernel
theorem dL_lawDays_5 : decode cL_lawDays 5 = .ok (.invokevirtual 62, 3) := by decide +kernel
theorem dL_lawDays_8 : decode cL_lawDays 8 = .ok (.i2l, 1) := by decide +kernel
theorem dL_lawDays_9 : decode cL_lawDays 9 = .ok (.lastore, 1) := by decide +kernel
theorem dL_lawDays_10 : decode cL_lawDays 10 = .ok (.goto 7, 3) := by decide +kernel
theorem dL_lawDays_13 : decode cL_lawDays 13 = .ok (.astore 4, 2) := by decide +kernel
theorem dL_lawDays_15 : decode cL_lawDays 15 = .ok (.iconst 1, 1) := by decide +kernel
theorem dL_lawDays_16 : decode cL_lawDays 16 = .ok (.ireturn, 1) := by decide +kernel
theorem dL_lawDays_17 : decode cL_lawDays 17 = .ok (.iconst 0, 1) := by decide +kernel
theorem dL_lawDays_18 : decode cL_lawDays 18 = .ok (.ireturn, 1) := by decide +kernel
set_option maxRecDepth 20000 in
theorem ggL_placeOf_X0_placeOf : GoodIn wsL_placeOf wsX0_placeOf := goodIn_ca (goodIn_r _ [6, 7, 8, 5, 9, 10, 11, 12, 13, 14, 15, 16, 17, 18, 19, 20, 21] (by decide +kernel) (by decide +kernel)) (goodIn_sub (fun _ h => List.mem_cons_of_mem _ (List.mem_append_right _ h)) (by decide +kernel))
set_option maxRecDepth 20000 in
theorem gL_placeOf_X0_placeOf : GoodIn wsL_placeOf (wsV RL 65 RX0 yX0_placeOf wsX0_placeOf) := goodIn_app (goodIn_of _ (by decide +kernel)) ggL_placeOf_X0_placeOf
theorem dL_placeOf_0 : decode cL_placeOf 0 = .ok (.aload_n 2, 1) := by decide +kernel
theorem dL_placeOf_1 : decode cL_placeOf 1 = .ok (.iconst 0, 1) := by decide +kernel
theorem dL_placeOf_2 : decode cL_placeOf 2 = .ok (.aload_n 0, 1) := by decide +kernel
theorem dL_placeOf_3 : decode cL_placeOf 3 = .ok (.iload_n 1, 1) := by decide +kernel
theorem dL_placeOf_4 : decode cL_placeOf 4 = .ok (.invokevirtual 65, 3) := by decide +kernel
theorem dL_placeOf_7 : decode cL_placeOf 7 = .ok (.i2l, 1) := by decide +kernel
theorem dL_placeOf_8 : decode cL_placeOf 8 = .ok (.lastore, 1) := by decide +kernel
theorem dL_placeOf_9 : decode cL_placeOf 9 = .ok (.goto 6, 3) := by decide +kernel
theorem dL_placeOf_12 : decode cL_placeOf 12 = .ok (.astore_n 3, 1) := by decide +kernel
theorem dL_placeOf_13 : decode cL_placeOf 13 = .ok (.iconst 1, 1) := by decide +kernel
theorem dL_placeOf_14 : decode cL_placeOf 14 = .ok (.ireturn, 1) := by decide +kernel
theorem dL_placeOf_15 : decode cL_placeOf 15 = .ok (.iconst 0, 1) := by decide +kernel
theorem dL_placeOf_16 : decode cL_placeOf 16 = .ok (.ireturn, 1) := by decide +kernel
set_option maxRecDepth 20000 in
theorem ggL_letterOfEight_X0_letterOfEight : GoodIn wsL_letterOfEight wsX0_letterOfEight := goodIn_ca (goodIn_r _ [6, 7, 8, 5, 9, 10, 11, 12, 13, 14, 15, 16, 17, 18, 19, 20, 21, 22, 23, 24] (by decide +kernel) (by decide +kernel)) (goodIn_sub (fun _ h => List.mem_cons_of_mem _ (List.mem_append_right _ h)) (by decide +kernel))
set_option maxRecDepth 20000 in
theorem gL_letterOfEight_X0_letterOfEight : GoodIn wsL_letterOfEight (wsV RL 68 RX0 yX0_letterOfEight wsX0_letterOfEight) := goodIn_app (goodIn_of _ (by decide +kernel)) ggL_letterOfEight_X0_letterOfEight
theorem dL_letterOfEight_0 : decode cL_letterOfEight 0 = .ok (.aload_n 2, 1) := by decide +kernel
theorem dL_letterOfEight_1 : decode cL_letterOfEight 1 = .ok (.iconst 0, 1) := by decide +kernel
theorem dL_letterOfEight_2 : decode cL_letterOfEight 2 = .ok (.aload_n 0, 1) := by decide +kernel
theorem dL_letterOfEight_3 : decode cL_letterOfEight 3 = .ok (.iload_n 1, 1) := by decide +kernel
theorem dL_letterOfEight_4 : decode cL_letterOfEight 4 = .ok (.invokevirtual 68, 3) := by decide +kernel
theorem dL_letterOfEight_7 : decode cL_letterOfEight 7 = .ok (.i2l, 1) := by decide +kernel
theorem dL_letterOfEight_8 : decode cL_letterOfEight 8 = .ok (.lastore, 1) := by decide +kernel
theorem dL_letterOfEight_9 : decode cL_letterOfEight 9 = .ok (.goto 6, 3) := by decide +kernel
theorem dL_letterOfEight_12 : decode cL_letterOfEight 12 = .ok (.astore_n 3, 1) := by decide +kernel
theorem dL_letterOfEight_13 : decode cL_letterOfEight 13 = .ok (.iconst 1, 1) := by decide +kernel
theorem dL_letterOfEight_14 : decode cL_letterOfEight 14 = .ok (.ireturn, 1) := by decide +kernel
theorem dL_letterOfEight_15 : decode cL_letterOfEight 15 = .ok (.iconst 0, 1) := by decide +kernel
theorem dL_letterOfEight_16 : decode cL_letterOfEight 16 = .ok (.ireturn, 1) := by decide +kernel
set_option maxRecDepth 20000 in
theorem ggL_letterOfSeven_X0_letterOfSeven : GoodIn wsL_letterOfSeven wsX0_letterOfSeven := goodIn_ca (goodIn_r _ [6, 7, 8, 5, 9, 10, 11, 12, 13, 14, 15, 16, 17, 18, 19, 20, 21, 22, 23, 24] (by decide +kernel) (by decide +kernel)) (goodIn_sub (fun _ h => List.mem_cons_of_mem _ (List.mem_append_right _ h)) (by decide +kernel))
set_option maxRecDepth 20000 in
theorem gL_letterOfSeven_X0_letterOfSeven : GoodIn wsL_letterOfSeven (wsV RL 71 RX0 yX0_letterOfSeven wsX0_letterOfSeven) := goodIn_app (goodIn_of _ (by decide +kernel)) ggL_letterOfSeven_X0_letterOfSeven
theorem dL_letterOfSeven_0 : decode cL_letterOfSeven 0 = .ok (.aload_n 2, 1) := by decide +kernel
theorem dL_letterOfSeven_1 : decode cL_letterOfSeven 1 = .ok (.iconst 0, 1) := by decide +kernel
theorem dL_letterOfSeven_2 : decode cL_letterOfSeven 2 = .ok (.aload_n 0, 1) := by decide +kernel
theorem dL_letterOfSeven_3 : decode cL_letterOfSeven 3 = .ok (.iload_n 1, 1) := by decide +kernel
theorem dL_letterOfSeven_4 : decode cL_letterOfSeven 4 = .ok (.invokevirtual 71, 3) := by decide +kernel
theorem dL_letterOfSeven_7 : decode cL_letterOfSeven 7 = .ok (.i2l, 1) := by decide +kernel
theorem dL_letterOfSeven_8 : decode cL_letterOfSeven 8 = .ok (.lastore, 1) := by decide +kernel
theorem dL_letterOfSeven_9 : decode cL_letterOfSeven 9 = .ok (.goto 6, 3) := by decide +kernel
theorem dL_letterOfSeven_12 : decode cL_letterOfSeven 12 = .ok (.astore_n 3, 1) := by decide +kernel
theorem dL_letterOfSeven_13 : decode cL_letterOfSeven 13 = .ok (.iconst 1, 1) := by decide +kernel
theorem dL_letterOfSeven_14 : decode cL_letterOfSeven 14 = .ok (.ireturn, 1) := by decide +kernel
theorem dL_letterOfSeven_15 : decode cL_letterOfSeven 15 = .ok (.iconst 0, 1) := by decide +kernel
theorem dL_letterOfSeven_16 : decode cL_letterOfSeven 16 = .ok (.ireturn, 1) := by decide +kernel
set_option maxRecDepth 20000 in
theorem ggL_setMarketDay_X0_setMarketDay : GoodIn wsL_setMarketDay wsX0_setMarketDay := goodIn_ca (goodIn_r _ [6, 7, 8, 9, 5, 10, 11, 12, 13, 14, 15, 16, 17] (by decide +kernel) (by decide +kernel)) (goodIn_sub (fun _ h => List.mem_cons_of_mem _ (List.mem_append_right _ h)) (by decide +kernel))
set_option maxRecDepth 20000 in
theorem gL_setMarketDay_X0_setMarketDay : GoodIn wsL_setMarketDay (wsV RL 74 RX0 yX0_setMarketDay wsX0_setMarketDay) := goodIn_app (goodIn_of _ (by decide +kernel)) ggL_setMarketDay_X0_setMarketDay
theorem dL_setMarketDay_0 : decode cL_setMarketDay 0 = .ok (.aload_n 2, 1) := by decide +kernel
theorem dL_setMarketDay_1 : decode cL_setMarketDay 1 = .ok (.iconst 0, 1) := by decide +kernel
theorem dL_setMarketDay_2 : decode cL_setMarketDay 2 = .ok (.aload_n 0, 1) := by decide +kernel
theorem dL_setMarketDay_3 : decode cL_setMarketDay 3 = .ok (.iload_n 1, 1) := by decide +kernel
theorem dL_setMarketDay_4 : decode cL_setMarketDay 4 = .ok (.invokevirtual 74, 3) := by decide +kernel
theorem dL_setMarketDay_7 : decode cL_setMarketDay 7 = .ok (.i2l, 1) := by decide +kernel
theorem dL_setMarketDay_8 : decode cL_setMarketDay 8 = .ok (.lastore, 1) := by decide +kernel
theorem dL_setMarketDay_9 : decode cL_setMarketDay 9 = .ok (.goto 6, 3) := by decide +kernel
theorem dL_setMarketDay_12 : decode cL_setMarketDay 12 = .ok (.astore_n 3, 1) := by decide +kernel
theorem dL_setMarketDay_13 : decode cL_setMarketDay 13 = .ok (.iconst 1, 1) := by decide +kernel
theorem dL_setMarketDay_14 : decode cL_setMarketDay 14 = .ok (.ireturn, 1) := by decide +kernel
theorem dL_setMarketDay_15 : decode cL_setMarketDay 15 = .ok (.iconst 0, 1) := by decide +kernel
theorem dL_setMarketDay_16 : decode cL_setMarketDay 16 = .ok (.ireturn, 1) := by decide +kernel
set_option maxRecDepth 20000 in
theorem ggL_isMarket_X0_isMarket : GoodIn wsL_isMarket wsX0_isMarket := goodIn_ca (goodIn_r _ [6, 7, 8, 5, 9, 10, 11, 12, 13, 14, 15, 16, 17, 18, 19, 20, 21] (by decide +kernel) (by decide +kernel)) (goodIn_sub (fun _ h => List.mem_cons_of_mem _ (List.mem_append_right _ h)) (by decide +kernel))
set_option maxRecDepth 20000 in
theorem gL_isMarket_X0_isMarket : GoodIn wsL_isMarket (wsV RL 77 RX0 yX0_isMarket wsX0_isMarket) := goodIn_app (goodIn_of _ (by decide +kernel)) ggL_isMarket_X0_isMarket
theorem dL_isMarket_0 : decode cL_isMarket 0 = .ok (.aload_n 2, 1) := by decide +kernel
theorem dL_isMarket_1 : decode cL_isMarket 1 = .ok (.iconst 0, 1) := by decide +kernel
theorem dL_isMarket_2 : decode cL_isMarket 2 = .ok (.aload_n 0, 1) := by decide +kernel
theorem dL_isMarket_3 : decode cL_isMarket 3 = .ok (.iload_n 1, 1) := by decide +kernel
theorem dL_isMarket_4 : decode cL_isMarket 4 = .ok (.invokevirtual 77, 3) := by decide +kernel
theorem dL_isMarket_7 : decode cL_isMarket 7 = .ok (.ifCond .eq 7, 3) := by decide +kernel
theorem dL_isMarket_10 : decode cL_isMarket 10 = .ok (.lconst 1, 1) := by decide +kernel
theorem dL_isMarket_11 : decode cL_isMarket 11 = .ok (.goto 4, 3) := by decide +kernel
theorem dL_isMarket_14 : decode cL_isMarket 14 = .ok (.lconst 0, 1) := by decide +kernel
theorem dL_isMarket_15 : decode cL_isMarket 15 = .ok (.lastore, 1) := by decide +kernel
theorem dL_isMarket_16 : decode cL_isMarket 16 = .ok (.goto 6, 3) := by decide +kernel
theorem dL_isMarket_19 : decode cL_isMarket 19 = .ok (.astore_n 3, 1) := by decide +kernel
theorem dL_isMarket_20 : decode cL_isMarket 20 = .ok (.iconst 1, 1) := by decide +kernel
theorem dL_isMarket_21 : decode cL_isMarket 21 = .ok (.ireturn, 1) := by decide +kernel
theorem dL_isMarket_22 : decode cL_isMarket 22 = .ok (.iconst 0, 1) := by decide +kernel
theorem dL_isMarket_23 : decode cL_isMarket 23 = .ok (.ireturn, 1) := by decide +kernel
set_option maxRecDepth 20000 in
theorem ggL_marketLetters_X0_marketLetters : GoodIn wsL_marketLetters wsX0_marketLetters := goodIn_ca (goodIn_r _ [6, 7, 8, 9, 5, 10, 11, 12, 13, 14, 15, 16, 17, 18, 19, 20, 21, 22, 23, 24, 25, 26, 27, 28, 29, 30, 31, 32, 33, 34, 35, 36, 37, 38] (by decide +kernel) (by decide +kernel)) (goodIn_sub (fun _ h => List.mem_cons_of_mem _ (List.mem_append_right _ h)) (by decide +kernel))
set_option maxRecDepth 20000 in
theorem gL_marketLetters_X0_marketLetters : GoodIn wsL_marketLetters (wsV RL 80 RX0 yX0_marketLetters wsX0_marketLetters) := goodIn_app (goodIn_of _ (by decide +kernel)) ggL_marketLetters_X0_marketLetters
theorem dL_marketLetters_0 : decode cL_marketLetters 0 = .ok (.aload_n 2, 1) := by decide +kernel
theorem dL_marketLetters_1 : decode cL_marketLetters 1 = .ok (.iconst 0, 1) := by decide +kernel
theorem dL_marketLetters_2 : decode cL_marketLetters 2 = .ok (.aload_n 0, 1) := by decide +kernel
theorem dL_marketLetters_3 : decode cL_marketLetters 3 = .ok (.iload_n 1, 1) := by decide +kernel
theorem dL_marketLetters_4 : decode cL_marketLetters 4 = .ok (.invokevirtual 80, 3) := by decide +kernel
theorem dL_marketLetters_7 : decode cL_marketLetters 7 = .ok (.i2l, 1) := by decide +kernel
theorem dL_marketLetters_8 : decode cL_marketLetters 8 = .ok (.lastore, 1) := by decide +kernel
theorem dL_marketLetters_9 : decode cL_marketLetters 9 = .ok (.goto 6, 3) := by decide +kernel
theorem dL_marketLetters_12 : decode cL_marketLetters 12 = .ok (.astore_n 3, 1) := by decide +kernel
theorem dL_marketLetters_13 : decode cL_marketLetters 13 = .ok (.iconst 1, 1) := by decide +kernel
theorem dL_marketLetters_14 : decode cL_marketLetters 14 = .ok (.ireturn, 1) := by decide +kernel
theorem dL_marketLetters_15 : decode cL_marketLetters 15 = .ok (.iconst 0, 1) := by decide +kernel
theorem dL_marketLetters_16 : decode cL_marketLetters 16 = .ok (.ireturn, 1) := by decide +kernel
set_option maxRecDepth 20000 in
theorem ggL_sundayLetters_X0_sundayLetters : GoodIn wsL_sundayLetters wsX0_sundayLetters := goodIn_ca (goodIn_r _ [6, 7, 8, 5, 9, 10, 11, 12, 13, 14, 15, 16, 17, 18, 19, 20, 21, 22, 23, 24, 25, 26, 27, 28, 29, 30, 31, 32, 33] (by decide +kernel) (by decide +kernel)) (goodIn_sub (fun _ h => List.mem_cons_of_mem _ (List.mem_append_right _ h)) (by decide +kernel))
set_option maxRecDepth 20000 in
theorem gL_sundayLetters_X0_sundayLetters : GoodIn wsL_sundayLetters (wsV RL 83 RX0 yX0_sundayLetters wsX0_sundayLetters) := goodIn_app (goodIn_of _ (by decide +kernel)) ggL_sundayLetters_X0_sundayLetters
theorem dL_sundayLetters_0 : decode cL_sundayLetters 0 = .ok (.aload_n 2, 1) := by decide +kernel
theorem dL_sundayLetters_1 : decode cL_sundayLetters 1 = .ok (.iconst 0, 1) := by decide +kernel
theorem dL_sundayLetters_2 : decode cL_sundayLetters 2 = .ok (.aload_n 0, 1) := by decide +kernel
theorem dL_sundayLetters_3 : decode cL_sundayLetters 3 = .ok (.iload_n 1, 1) := by decide +kernel
theorem dL_sundayLetters_4 : decode cL_sundayLetters 4 = .ok (.invokevirtual 83, 3) := by decide +kernel
theorem dL_sundayLetters_7 : decode cL_sundayLetters 7 = .ok (.i2l, 1) := by decide +kernel
theorem dL_sundayLetters_8 : decode cL_sundayLetters 8 = .ok (.lastore, 1) := by decide +kernel
theorem dL_sundayLetters_9 : decode cL_sundayLetters 9 = .ok (.goto 6, 3) := by decide +kernel
theorem dL_sundayLetters_12 : decode cL_sundayLetters 12 = .ok (.astore_n 3, 1) := by decide +kernel
theorem dL_sundayLetters_13 : decode cL_sundayLetters 13 = .ok (.iconst 1, 1) := by decide +kernel
theorem dL_sundayLetters_14 : decode cL_sundayLetters 14 = .ok (.ireturn, 1) := by decide +kernel
theorem dL_sundayLetters_15 : decode cL_sundayLetters 15 = .ok (.iconst 0, 1) := by decide +kernel
theorem dL_sundayLetters_16 : decode cL_sundayLetters 16 = .ok (.ireturn, 1) := by decide +kernel
set_option maxRecDepth 20000 in
theorem ggL_setConsuls_X0_setConsuls : GoodIn wsL_setConsuls wsX0_setConsuls := goodIn_ca (goodIn_ca (goodIn_ca (goodIn_r _ [8, 9, 10, 11, 12, 13, 14, 15, 16, 7, 17, 18, 19, 20, 21, 22, 23, 24, 25, 26, 27, 28, 29, 30, 31, 32, 33, 34, 35, 36, 37] (by decide +kernel) (by decide +kernel)) (goodIn_sub (fun _ h => List.mem_cons_of_mem _ (List.mem_append_left _ (List.mem_append_left _ (List.mem_append_right _ h)))) (by decide +kernel))) (goodIn_sub (fun _ h => List.mem_cons_of_mem _ (List.mem_append_left _ (List.mem_append_right _ h))) (by decide +kernel))) (goodIn_sub (fun _ h => List.mem_cons_of_mem _ (List.mem_append_right _ h)) (by decide +kernel))
set_option maxRecDepth 20000 in
theorem gL_setConsuls_X0_setConsuls : GoodIn wsL_setConsuls (wsV RL 86 RX0 yX0_setConsuls wsX0_setConsuls) := goodIn_app (goodIn_of _ (by decide +kernel)) ggL_setConsuls_X0_setConsuls
theorem dL_setConsuls_0 : decode cL_setConsuls 0 = .ok (.aload 4, 2) := by decide +kernel
theorem dL_setConsuls_2 : decode cL_setConsuls 2 = .ok (.iconst 0, 1) := by decide +kernel
theorem dL_setConsuls_3 : decode cL_setConsuls 3 = .ok (.aload_n 0, 1) := by decide +kernel
theorem dL_setConsuls_4 : decode cL_setConsuls 4 = .ok (.iload_n 1, 1) := by decide +kernel
theorem dL_setConsuls_5 : decode cL_setConsuls 5 = .ok (.iload_n 2, 1) := by decide +kernel
theorem dL_setConsuls_6 : decode cL_setConsuls 6 = .ok (.iload_n 3, 1) := by decide +kernel
theorem dL_setConsuls_7 : decode cL_setConsuls 7 = .ok (.invokevirtual 86, 3) := by decide +kernel
theorem dL_setConsuls_10 : decode cL_setConsuls 10 = .ok (.i2l, 1) := by decide +kernel
theorem dL_setConsuls_11 : decode cL_setConsuls 11 = .ok (.lastore, 1) := by decide +kernel
theorem dL_setConsuls_12 : decode cL_setConsuls 12 = .ok (.goto 15, 3) := by decide +kernel
theorem dL_setConsuls_15 : decode cL_setConsuls 15 = .ok (.astore 5, 2) := by decide +kernel
theorem dL_setConsuls_17 : decode cL_setConsuls 17 = .ok (.iconst 1, 1) := by decide +kernel
theorem dL_setConsuls_18 : decode cL_setConsuls 18 = .ok (.ireturn, 1) := by decide +kernel
theorem dL_setConsuls_19 : decode cL_setConsuls 19 = .ok (.astore 5, 2) := by decide +kernel
theorem dL_setConsuls_21 : decode cL_setConsuls 21 = .ok (.iconst 2, 1) := by decide +kernel
theorem dL_setConsuls_22 : decode cL_setConsuls 22 = .ok (.ireturn, 1) := by decide +kernel
theorem dL_setConsuls_23 : decode cL_setConsuls 23 = .ok (.astore 5, 2) := by decide +kernel
theorem dL_setConsuls_25 : decode cL_setConsuls 25 = .ok (.iconst 3, 1) := by decide +kernel
theorem dL_setConsuls_26 : decode cL_setConsuls 26 = .ok (.ireturn, 1) := by decide +kernel
theorem dL_setConsuls_27 : decode cL_setConsuls 27 = .ok (.iconst 0, 1) := by decide +kernel
theorem dL_setConsuls_28 : decode cL_setConsuls 28 = .ok (.ireturn, 1) := by decide +kernel
set_option maxRecDepth 20000 in
theorem ggL_strikeConsuls_X0_strikeConsuls : GoodIn wsL_strikeConsuls wsX0_strikeConsuls := goodIn_ca (goodIn_ca (goodIn_r _ [7, 8, 9, 10, 11, 12, 6, 13, 14, 15, 16, 17, 18, 19, 20, 21, 22, 23, 24, 25, 26, 27, 28, 29, 30] (by decide +kernel) (by decide +kernel)) (goodIn_sub (fun _ h => List.mem_cons_of_mem _ (List.mem_append_left _ (List.mem_append_right _ h))) (by decide +kernel))) (goodIn_sub (fun _ h => List.mem_cons_of_mem _ (List.mem_append_right _ h)) (by decide +kernel))
set_option maxRecDepth 20000 in
theorem gL_strikeConsuls_X0_strikeConsuls : GoodIn wsL_strikeConsuls (wsV RL 89 RX0 yX0_strikeConsuls wsX0_strikeConsuls) := goodIn_app (goodIn_of _ (by decide +kernel)) ggL_strikeConsuls_X0_strikeConsuls
theorem dL_strikeConsuls_0 : decode cL_strikeConsuls 0 = .ok (.aload_n 2, 1) := by decide +kernel
theorem dL_strikeConsuls_1 : decode cL_strikeConsuls 1 = .ok (.iconst 0, 1) := by decide +kernel
theorem dL_strikeConsuls_2 : decode cL_strikeConsuls 2 = .ok (.aload_n 0, 1) := by decide +kernel
theorem dL_strikeConsuls_3 : decode cL_strikeConsuls 3 = .ok (.iload_n 1, 1) := by decide +kernel
theorem dL_strikeConsuls_4 : decode cL_strikeConsuls 4 = .ok (.invokevirtual 89, 3) := by decide +kernel
theorem dL_strikeConsuls_7 : decode cL_strikeConsuls 7 = .ok (.i2l, 1) := by decide +kernel
theorem dL_strikeConsuls_8 : decode cL_strikeConsuls 8 = .ok (.lastore, 1) := by decide +kernel
theorem dL_strikeConsuls_9 : decode cL_strikeConsuls 9 = .ok (.goto 9, 3) := by decide +kernel
theorem dL_strikeConsuls_12 : decode cL_strikeConsuls 12 = .ok (.astore_n 3, 1) := by decide +kernel
theorem dL_strikeConsuls_13 : decode cL_strikeConsuls 13 = .ok (.iconst 1, 1) := by decide +kernel
theorem dL_strikeConsuls_14 : decode cL_strikeConsuls 14 = .ok (.ireturn, 1) := by decide +kernel
theorem dL_strikeConsuls_15 : decode cL_strikeConsuls 15 = .ok (.astore_n 3, 1) := by decide +kernel
theorem dL_strikeConsuls_16 : decode cL_strikeConsuls 16 = .ok (.iconst 2, 1) := by decide +kernel
theorem dL_strikeConsuls_17 : decode cL_strikeConsuls 17 = .ok (.ireturn, 1) := by decide +kernel
theorem dL_strikeConsuls_18 : decode cL_strikeConsuls 18 = .ok (.iconst 0, 1) := by decide +kernel
theorem dL_strikeConsuls_19 : decode cL_strikeConsuls 19 = .ok (.ireturn, 1) := by decide +kernel
set_option maxRecDepth 20000 in
theorem ggL_consulsOf_X0_consulsOf : GoodIn wsL_consulsOf wsX0_consulsOf := goodIn_ca (goodIn_r _ [6, 7, 8, 9, 5, 10, 11, 12, 13, 14, 15, 16, 17, 18, 19, 20, 21, 22, 23, 24] (by decide +kernel) (by decide +kernel)) (goodIn_sub (fun _ h => List.mem_cons_of_mem _ (List.mem_append_right _ h)) (by decide +kernel))
set_option maxRecDepth 20000 in
theorem gL_consulsOf_X0_consulsOf : GoodIn wsL_consulsOf (wsV RL 92 RX0 yX0_consulsOf wsX0_consulsOf) := goodIn_app (goodIn_of _ (by decide +kernel)) ggL_consulsOf_X0_consulsOf
theorem dL_consulsOf_0 : decode cL_consulsOf 0 = .ok (.aload_n 2, 1) := by decide +kernel
theorem dL_consulsOf_1 : decode cL_consulsOf 1 = .ok (.iconst 0, 1) := by decide +kernel
theorem dL_consulsOf_2 : decode cL_consulsOf 2 = .ok (.aload_n 0, 1) := by decide +kernel
theorem dL_consulsOf_3 : decode cL_consulsOf 3 = .ok (.iload_n 1, 1) := by decide +kernel
theorem dL_consulsOf_4 : decode cL_consulsOf 4 = .ok (.invokevirtual 92, 3) := by decide +kernel
theorem dL_consulsOf_7 : decode cL_consulsOf 7 = .ok (.i2l, 1) := by decide +kernel
theorem dL_consulsOf_8 : decode cL_consulsOf 8 = .ok (.lastore, 1) := by decide +kernel
theorem dL_consulsOf_9 : decode cL_consulsOf 9 = .ok (.goto 6, 3) := by decide +kernel
theorem dL_consulsOf_12 : decode cL_consulsOf 12 = .ok (.astore_n 3, 1) := by decide +kernel
theorem dL_consulsOf_13 : decode cL_consulsOf 13 = .ok (.iconst 1, 1) := by decide +kernel
theorem dL_consulsOf_14 : decode cL_consulsOf 14 = .ok (.ireturn, 1) := by decide +kernel
theorem dL_consulsOf_15 : decode cL_consulsOf 15 = .ok (.iconst 0, 1) := by decide +kernel
theorem dL_consulsOf_16 : decode cL_consulsOf 16 = .ok (.ireturn, 1) := by decide +kernel
set_option maxRecDepth 20000 in
theorem ggL_afterConsuls_X0_afterConsuls : GoodIn wsL_afterConsuls wsX0_afterConsuls := goodIn_ca (goodIn_r _ [6, 7, 8, 9, 5, 10, 11, 12, 13, 14, 15, 16] (by decide +kernel) (by decide +kernel)) (goodIn_sub (fun _ h => List.mem_cons_of_mem _ (List.mem_append_right _ h)) (by decide +kernel))
set_option maxRecDepth 20000 in
theorem gL_afterConsuls_X0_afterConsuls : GoodIn wsL_afterConsuls (wsV RL 95 RX0 yX0_afterConsuls wsX0_afterConsuls) := goodIn_app (goodIn_of _ (by decide +kernel)) ggL_afterConsuls_X0_afterConsuls
theorem dL_afterConsuls_0 : decode cL_afterConsuls 0 = .ok (.aload_n 2, 1) := by decide +kernel
theorem dL_afterConsuls_1 : decode cL_afterConsuls 1 = .ok (.iconst 0, 1) := by decide +kernel
theorem dL_afterConsuls_2 : decode cL_afterConsuls 2 = .ok (.aload_n 0, 1) := by decide +kernel
theorem dL_afterConsuls_3 : decode cL_afterConsuls 3 = .ok (.iload_n 1, 1) := by decide +kernel
theorem dL_afterConsuls_4 : decode cL_afterConsuls 4 = .ok (.invokevirtual 95, 3) := by decide +kernel
theorem dL_afterConsuls_7 : decode cL_afterConsuls 7 = .ok (.i2l, 1) := by decide +kernel
theorem dL_afterConsuls_8 : decode cL_afterConsuls 8 = .ok (.lastore, 1) := by decide +kernel
theorem dL_afterConsuls_9 : decode cL_afterConsuls 9 = .ok (.goto 6, 3) := by decide +kernel
theorem dL_afterConsuls_12 : decode cL_afterConsuls 12 = .ok (.astore_n 3, 1) := by decide +kernel
theorem dL_afterConsuls_13 : decode cL_afterConsuls 13 = .ok (.iconst 1, 1) := by decide +kernel
theorem dL_afterConsuls_14 : decode cL_afterConsuls 14 = .ok (.ireturn, 1) := by decide +kernel
theorem dL_afterConsuls_15 : decode cL_afterConsuls 15 = .ok (.iconst 0, 1) := by decide +kernel
theorem dL_afterConsuls_16 : decode cL_afterConsuls 16 = .ok (.ireturn, 1) := by decide +kernel
set_option maxRecDepth 20000 in
theorem ggL_yearOfConsuls_X0_yearOfConsuls : GoodIn wsL_yearOfConsuls wsX0_yearOfConsuls := goodIn_ca (goodIn_r _ [6, 7, 8, 9, 10, 11, 5, 12, 13, 14, 15, 16, 17, 18, 19, 20, 21] (by decide +kernel) (by decide +kernel)) (goodIn_sub (fun _ h => List.mem_cons_of_mem _ (List.mem_append_right _ h)) (by decide +kernel))
set_option maxRecDepth 20000 in
theorem gL_yearOfConsuls_X0_yearOfConsuls : GoodIn wsL_yearOfConsuls (wsV RL 98 RX0 yX0_yearOfConsuls wsX0_yearOfConsuls) := goodIn_app (goodIn_of _ (by decide +kernel)) ggL_yearOfConsuls_X0_yearOfConsuls
theorem dL_yearOfConsuls_0 : decode cL_yearOfConsuls 0 = .ok (.aload 4, 2) := by decide +kernel
theorem dL_yearOfConsuls_2 : decode cL_yearOfConsuls 2 = .ok (.iconst 0, 1) := by decide +kernel
theorem dL_yearOfConsuls_3 : decode cL_yearOfConsuls 3 = .ok (.aload_n 0, 1) := by decide +kernel
theorem dL_yearOfConsuls_4 : decode cL_yearOfConsuls 4 = .ok (.iload_n 1, 1) := by decide +kernel
theorem dL_yearOfConsuls_5 : decode cL_yearOfConsuls 5 = .ok (.iload_n 2, 1) := by decide +kernel
theorem dL_yearOfConsuls_6 : decode cL_yearOfConsuls 6 = .ok (.iload_n 3, 1) := by decide +kernel
theorem dL_yearOfConsuls_7 : decode cL_yearOfConsuls 7 = .ok (.invokevirtual 98, 3) := by decide +kernel
theorem dL_yearOfConsuls_10 : decode cL_yearOfConsuls 10 = .ok (.i2l, 1) := by decide +kernel
theorem dL_yearOfConsuls_11 : decode cL_yearOfConsuls 11 = .ok (.lastore, 1) := by decide +kernel
theorem dL_yearOfConsuls_12 : decode cL_yearOfConsuls 12 = .ok (.goto 7, 3) := by decide +kernel
theorem dL_yearOfConsuls_15 : decode cL_yearOfConsuls 15 = .ok (.astore 5, 2) := by decide +kernel
theorem dL_yearOfConsuls_17 : decode cL_yearOfConsuls 17 = .ok (.iconst 1, 1) := by decide +kernel
theorem dL_yearOfConsuls_18 : decode cL_yearOfConsuls 18 = .ok (.ireturn, 1) := by decide +kernel
theorem dL_yearOfConsuls_19 : decode cL_yearOfConsuls 19 = .ok (.iconst 0, 1) := by decide +kernel
theorem dL_yearOfConsuls_20 : decode cL_yearOfConsuls 20 = .ok (.ireturn, 1) := by decide +kernel
set_option maxRecDepth 20000 in
theorem ggL_setCharacter_X0_setCharacter : GoodIn wsL_setCharacter wsX0_setCharacter := goodIn_ca (goodIn_ca (goodIn_r _ [7, 8, 9, 10, 11, 12, 13, 6, 14, 15, 16, 17, 18, 19, 20, 21, 22, 23, 24, 25, 26, 27] (by decide +kernel) (by decide +kernel)) (goodIn_sub (fun _ h => List.mem_cons_of_mem _ (List.mem_append_left _ (List.mem_append_right _ h))) (by decide +kernel))) (goodIn_sub (fun _ h => List.mem_cons_of_mem _ (List.mem_append_right _ h)) (by decide +kernel))
set_option maxRecDepth 20000 in
theorem gL_setCharacter_X0_setCharacter : GoodIn wsL_setCharacter (wsV RL 101 RX0 yX0_setCharacter wsX0_setCharacter) := goodIn_app (goodIn_of _ (by decide +kernel)) ggL_setCharacter_X0_setCharacter
theorem dL_setCharacter_0 : decode cL_setCharacter 0 = .ok (.aload_n 3, 1) := by decide +kernel
theorem dL_setCharacter_1 : decode cL_setCharacter 1 = .ok (.iconst 0, 1) := by decide +kernel
theorem dL_setCharacter_2 : decode cL_setCharacter 2 = .ok (.aload_n 0, 1) := by decide +kernel
theorem dL_setCharacter_3 : decode cL_setCharacter 3 = .ok (.iload_n 1, 1) := by decide +kernel
theorem dL_setCharacter_4 : decode cL_setCharacter 4 = .ok (.iload_n 2, 1) := by decide +kernel
theorem dL_setCharacter_5 : decode cL_setCharacter 5 = .ok (.invokevirtual 101, 3) := by decide +kernel
theorem dL_setCharacter_8 : decode cL_setCharacter 8 = .ok (.i2l, 1) := by decide +kernel
theorem dL_setCharacter_9 : decode cL_setCharacter 9 = .ok (.lastore, 1) := by decide +kernel
theorem dL_setCharacter_10 : decode cL_setCharacter 10 = .ok (.goto 11, 3) := by decide +kernel
theorem dL_setCharacter_13 : decode cL_setCharacter 13 = .ok (.astore 4, 2) := by decide +kernel
theorem dL_setCharacter_15 : decode cL_setCharacter 15 = .ok (.iconst 1, 1) := by decide +kernel
theorem dL_setCharacter_16 : decode cL_setCharacter 16 = .ok (.ireturn, 1) := by decide +kernel
theorem dL_setCharacter_17 : decode cL_setCharacter 17 = .ok (.astore 4, 2) := by decide +kernel
theorem dL_setCharacter_19 : decode cL_setCharacter 19 = .ok (.iconst 2, 1) := by decide +kernel
theorem dL_setCharacter_20 : decode cL_setCharacter 20 = .ok (.ireturn, 1) := by decide +kernel
theorem dL_setCharacter_21 : decode cL_setCharacter 21 = .ok (.iconst 0, 1) := by decide +kernel
theorem dL_setCharacter_22 : decode cL_setCharacter 22 = .ok (.ireturn, 1) := by decide +kernel
set_option maxRecDepth 20000 in
theorem ggL_characterOf_X0_characterOf : GoodIn wsL_characterOf wsX0_characterOf := goodIn_ca (goodIn_r _ [6, 7, 8, 5, 9, 10, 11, 12, 13, 14, 15, 16, 17, 18, 19, 20, 21, 22, 23, 24, 25, 26, 27, 28, 29, 30, 31, 32, 33] (by decide +kernel) (by decide +kernel)) (goodIn_sub (fun _ h => List.mem_cons_of_mem _ (List.mem_append_right _ h)) (by decide +kernel))
set_option maxRecDepth 20000 in
theorem gL_characterOf_X0_characterOf : GoodIn wsL_characterOf (wsV RL 104 RX0 yX0_characterOf wsX0_characterOf) := goodIn_app (goodIn_of _ (by decide +kernel)) ggL_characterOf_X0_characterOf
theorem dL_characterOf_0 : decode cL_characterOf 0 = .ok (.aload_n 2, 1) := by decide +kernel
theorem dL_characterOf_1 : decode cL_characterOf 1 = .ok (.iconst 0, 1) := by decide +kernel
theorem dL_characterOf_2 : decode cL_characterOf 2 = .ok (.aload_n 0, 1) := by decide +kernel
theorem dL_characterOf_3 : decode cL_characterOf 3 = .ok (.iload_n 1, 1) := by decide +kernel
theorem dL_characterOf_4 : decode cL_characterOf 4 = .ok (.invokevirtual 104, 3) := by decide +kernel
theorem dL_characterOf_7 : decode cL_characterOf 7 = .ok (.i2l, 1) := by decide +kernel
theorem dL_characterOf_8 : decode cL_characterOf 8 = .ok (.lastore, 1) := by decide +kernel
theorem dL_characterOf_9 : decode cL_characterOf 9 = .ok (.goto 6, 3) := by decide +kernel
theorem dL_characterOf_12 : decode cL_characterOf 12 = .ok (.astore_n 3, 1) := by decide +kernel
theorem dL_characterOf_13 : decode cL_characterOf 13 = .ok (.iconst 1, 1) := by decide +kernel
theorem dL_characterOf_14 : decode cL_characterOf 14 = .ok (.ireturn, 1) := by decide +kernel
theorem dL_characterOf_15 : decode cL_characterOf 15 = .ok (.iconst 0, 1) := by decide +kernel
theorem dL_characterOf_16 : decode cL_characterOf 16 = .ok (.ireturn, 1) := by decide +kernel
set_option maxRecDepth 20000 in
theorem ggL_canVote_X0_canVote : GoodIn wsL_canVote wsX0_canVote := goodIn_ca (goodIn_r _ [6, 7, 8, 5, 9, 10, 11, 12, 13, 14, 15, 16, 17, 18, 19, 20, 21, 22, 23, 24, 25, 26, 27, 28, 29, 30, 31, 32, 33, 34, 35, 36, 37, 38, 39, 40, 41, 42] (by decide +kernel) (by decide +kernel)) (goodIn_sub (fun _ h => List.mem_cons_of_mem _ (List.mem_append_right _ h)) (by decide +kernel))
set_option maxRecDepth 20000 in
theorem gL_canVote_X0_canVote : GoodIn wsL_canVote (wsV RL 107 RX0 yX0_canVote wsX0_canVote) := goodIn_app (goodIn_of _ (by decide +kernel)) ggL_canVote_X0_canVote
theorem dL_canVote_0 : decode cL_canVote 0 = .ok (.aload_n 2, 1) := by decide +kernel
theorem dL_canVote_1 : decode cL_canVote 1 = .ok (.iconst 0, 1) := by decide +kernel
theorem dL_canVote_2 : decode cL_canVote 2 = .ok (.aload_n 0, 1) := by decide +kernel
theorem dL_canVote_3 : decode cL_canVote 3 = .ok (.iload_n 1, 1) := by decide +kernel
theorem dL_canVote_4 : decode cL_canVote 4 = .ok (.invokevirtual 107, 3) := by decide +kernel
theorem dL_canVote_7 : decode cL_canVote 7 = .ok (.ifCond .eq 7, 3) := by decide +kernel
theorem dL_canVote_10 : decode cL_canVote 10 = .ok (.lconst 1, 1) := by decide +kernel
theorem dL_canVote_11 : decode cL_canVote 11 = .ok (.goto 4, 3) := by decide +kernel
theorem dL_canVote_14 : decode cL_canVote 14 = .ok (.lconst 0, 1) := by decide +kernel
theorem dL_canVote_15 : decode cL_canVote 15 = .ok (.lastore, 1) := by decide +kernel
theorem dL_canVote_16 : decode cL_canVote 16 = .ok (.goto 6, 3) := by decide +kernel
theorem dL_canVote_19 : decode cL_canVote 19 = .ok (.astore_n 3, 1) := by decide +kernel
theorem dL_canVote_20 : decode cL_canVote 20 = .ok (.iconst 1, 1) := by decide +kernel
theorem dL_canVote_21 : decode cL_canVote 21 = .ok (.ireturn, 1) := by decide +kernel
theorem dL_canVote_22 : decode cL_canVote 22 = .ok (.iconst 0, 1) := by decide +kernel
theorem dL_canVote_23 : decode cL_canVote 23 = .ok (.ireturn, 1) := by decide +kernel
set_option maxRecDepth 20000 in
theorem ggL_nextCourt_X0_nextCourt : GoodIn wsL_nextCourt wsX0_nextCourt := goodIn_ca (goodIn_r _ [6, 7, 8, 9, 10, 11, 12, 13, 5, 14, 15, 16, 17, 18, 19, 20, 21, 22, 23, 24, 25, 26, 27, 28, 29, 30, 31, 32, 33, 34, 35, 36, 37] (by decide +kernel) (by decide +kernel)) (goodIn_sub (fun _ h => List.mem_cons_of_mem _ (List.mem_append_right _ h)) (by decide +kernel))
set_option maxRecDepth 20000 in
theorem gL_nextCourt_X0_nextCourt : GoodIn wsL_nextCourt (wsV RL 110 RX0 yX0_nextCourt wsX0_nextCourt) := goodIn_app (goodIn_of _ (by decide +kernel)) ggL_nextCourt_X0_nextCourt
theorem dL_nextCourt_0 : decode cL_nextCourt 0 = .ok (.aload_n 2, 1) := by decide +kernel
theorem dL_nextCourt_1 : decode cL_nextCourt 1 = .ok (.iconst 0, 1) := by decide +kernel
theorem dL_nextCourt_2 : decode cL_nextCourt 2 = .ok (.aload_n 0, 1) := by decide +kernel
theorem dL_nextCourt_3 : decode cL_nextCourt 3 = .ok (.iload_n 1, 1) := by decide +kernel
theorem dL_nextCourt_4 : decode cL_nextCourt 4 = .ok (.invokevirtual 110, 3) := by decide +kernel
theorem dL_nextCourt_7 : decode cL_nextCourt 7 = .ok (.i2l, 1) := by decide +kernel
theorem dL_nextCourt_8 : decode cL_nextCourt 8 = .ok (.lastore, 1) := by decide +kernel
theorem dL_nextCourt_9 : decode cL_nextCourt 9 = .ok (.goto 6, 3) := by decide +kernel
theorem dL_nextCourt_12 : decode cL_nextCourt 12 = .ok (.astore_n 3, 1) := by decide +kernel
theorem dL_nextCourt_13 : decode cL_nextCourt 13 = .ok (.iconst 1, 1) := by decide +kernel
theorem dL_nextCourt_14 : decode cL_nextCourt 14 = .ok (.ireturn, 1) := by decide +kernel
theorem dL_nextCourt_15 : decode cL_nextCourt 15 = .ok (.iconst 0, 1) := by decide +kernel
theorem dL_nextCourt_16 : decode cL_nextCourt 16 = .ok (.ireturn, 1) := by decide +kernel
set_option maxRecDepth 20000 in
theorem ggL_votes_X0_votes : GoodIn wsL_votes wsX0_votes := goodIn_ca (goodIn_r _ [6, 7, 8, 5, 9, 10, 11, 12, 13, 14, 15, 16, 17, 18, 19, 20, 21, 22, 23, 24, 25, 26, 27, 28, 29, 30, 31, 32, 33, 34, 35, 36, 37, 38, 39, 40, 41, 42, 43, 44, 45, 46, 47] (by decide +kernel) (by decide +kernel)) (goodIn_sub (fun _ h => List.mem_cons_of_mem _ (List.mem_append_right _ h)) (by decide +kernel))
set_option maxRecDepth 20000 in
theorem gL_votes_X0_votes : GoodIn wsL_votes (wsV RL 113 RX0 yX0_votes wsX0_votes) := goodIn_app (goodIn_of _ (by decide +kernel)) ggL_votes_X0_votes
theorem dL_votes_0 : decode cL_votes 0 = .ok (.aload_n 2, 1) := by decide +kernel
theorem dL_votes_1 : decode cL_votes 1 = .ok (.iconst 0, 1) := by decide +kernel
theorem dL_votes_2 : decode cL_votes 2 = .ok (.aload_n 0, 1) := by decide +kernel
theorem dL_votes_3 : decode cL_votes 3 = .ok (.iload_n 1, 1) := by decide +kernel
theorem dL_votes_4 : decode cL_votes 4 = .ok (.invokevirtual 113, 3) := by decide +kernel
theorem dL_votes_7 : decode cL_votes 7 = .ok (.i2l, 1) := by decide +kernel
theorem dL_votes_8 : decode cL_votes 8 = .ok (.lastore, 1) := by decide +kernel
theorem dL_votes_9 : decode cL_votes 9 = .ok (.goto 6, 3) := by decide +kernel
theorem dL_votes_12 : decode cL_votes 12 = .ok (.astore_n 3, 1) := by decide +kernel
theorem dL_votes_13 : decode cL_votes 13 = .ok (.iconst 1, 1) := by decide +kernel
theorem dL_votes_14 : decode cL_votes 14 = .ok (.ireturn, 1) := by decide +kernel
theorem dL_votes_15 : decode cL_votes 15 = .ok (.iconst 0, 1) := by decide +kernel
theorem dL_votes_16 : decode cL_votes 16 = .ok (.ireturn, 1) := by decide +kernel
