set_option maxRecDepth 20000 in
theorem ggX0_init_X0_placeOfAnchor : GoodIn wsX0_init wsX0_placeOfAnchor := goodIn_r _ [12, 13, 14, 11, 15, 16, 17, 18, 19, 20, 21] (by decide +kernel) (by decide +kernel)
set_option maxRecDepth 20000 in
theorem gX0_init_X0_placeOfAnchor : GoodIn wsX0_init (va_wsS RX0 23 yX0_placeOfAnchor wsX0_placeOfAnchor) := goodIn_app (goodIn_of _ (by decide +kernel)) ggX0_init_X0_placeOfAnchor
set_option maxRecDepth 20000 in
theorem ggX0_init_X0_writeCharacter : GoodIn wsX0_init wsX0_writeCharacter := goodIn_r _ [25, 5, 26, 27, 11, 28, 29, 30, 31, 32] (by decide +kernel) (by decide +kernel)
set_option maxRecDepth 20000 in
theorem gX0_init_X0_writeCharacter : GoodIn wsX0_init (wsV RX0 27 RX0 yX0_writeCharacter wsX0_writeCharacter) := goodIn_app (goodIn_of _ (by decide +kernel)) ggX0_init_X0_writeCharacter
theorem dX0_init_0 : decode cX0_init 0 = .ok (.aload_n 0, 1) := by decide +kernel
theorem dX0_init_1 : decode cX0_init 1 = .ok (.invokespecial 1, 3) := by decide +kernel
theorem dX0_init_4 : decode cX0_init 4 = .ok (.aload_n 0, 1) := by decide +kernel
theorem dX0_init_5 : decode cX0_init 5 = .ok (.sipush 365, 3) := by decide +kernel
theorem dX0_init_8 : decode cX0_init 8 = .ok (.newarray .int, 2) := by decide +kernel
theorem dX0_init_10 : decode cX0_init 10 = .ok (.putfield 9, 3) := by decide +kernel
theorem dX0_init_13 : decode cX0_init 13 = .ok (.aload_n 0, 1) := by decide +kernel
theorem dX0_init_14 : decode cX0_init 14 = .ok (.bipush 60, 2) := by decide +kernel
theorem dX0_init_16 : decode cX0_init 16 = .ok (.newarray .int, 2) := by decide +kernel
theorem dX0_init_18 : decode cX0_init 18 = .ok (.putfield 13, 3) := by decide +kernel
theorem dX0_init_21 : decode cX0_init 21 = .ok (.aload_n 0, 1) := by decide +kernel
theorem dX0_init_22 : decode cX0_init 22 = .ok (.bipush 60, 2) := by decide +kernel
theorem dX0_init_24 : decode cX0_init 24 = .ok (.newarray .int, 2) := by decide +kernel
theorem dX0_init_26 : decode cX0_init 26 = .ok (.putfield 16, 3) := by decide +kernel
theorem dX0_init_29 : decode cX0_init 29 = .ok (.aload_n 0, 1) := by decide +kernel
theorem dX0_init_30 : decode cX0_init 30 = .ok (.iconst 0, 1) := by decide +kernel
theorem dX0_init_31 : decode cX0_init 31 = .ok (.putfield 19, 3) := by decide +kernel
theorem dX0_init_34 : decode cX0_init 34 = .ok (.iconst 0, 1) := by decide +kernel
theorem dX0_init_35 : decode cX0_init 35 = .ok (.istore_n 1, 1) := by decide +kernel
theorem dX0_init_36 : decode cX0_init 36 = .ok (.iload_n 1, 1) := by decide +kernel
theorem dX0_init_37 : decode cX0_init 37 = .ok (.sipush 365, 3) := by decide +kernel
theorem dX0_init_40 : decode cX0_init 40 = .ok (.if_icmp .ge 16, 3) := by decide +kernel
theorem dX0_init_43 : decode cX0_init 43 = .ok (.aload_n 0, 1) := by decide +kernel
theorem dX0_init_44 : decode cX0_init 44 = .ok (.getfield 9, 3) := by decide +kernel
theorem dX0_init_47 : decode cX0_init 47 = .ok (.iload_n 1, 1) := by decide +kernel
theorem dX0_init_48 : decode cX0_init 48 = .ok (.iconst 2, 1) := by decide +kernel
theorem dX0_init_49 : decode cX0_init 49 = .ok (.iastore, 1) := by decide +kernel
theorem dX0_init_50 : decode cX0_init 50 = .ok (.iinc 1 1, 3) := by decide +kernel
theorem dX0_init_53 : decode cX0_init 53 = .ok (.goto (-17), 3) := by decide +kernel
theorem dX0_init_56 : decode cX0_init 56 = .ok (.iconst 1, 1) := by decide +kernel
theorem dX0_init_57 : decode cX0_init 57 = .ok (.istore_n 1, 1) := by decide +kernel
theorem dX0_init_58 : decode cX0_init 58 = .ok (.iload_n 1, 1) := by decide +kernel
theorem dX0_init_59 : decode cX0_init 59 = .ok (.bipush 12, 2) := by decide +kernel
theorem dX0_init_61 : decode cX0_init 61 = .ok (.if_icmp .gt 39, 3) := by decide +kernel
theorem dX0_init_64 : decode cX0_init 64 = .ok (.aload_n 0, 1) := by decide +kernel
theorem dX0_init_65 : decode cX0_init 65 = .ok (.iload_n 1, 1) := by decide +kernel
theorem dX0_init_66 : decode cX0_init 66 = .ok (.iconst 0, 1) := by decide +kernel
theorem dX0_init_67 : decode cX0_init 67 = .ok (.invokestatic 23, 3) := by decide +kernel
theorem dX0_init_70 : decode cX0_init 70 = .ok (.iconst 0, 1) := by decide +kernel
theorem dX0_init_71 : decode cX0_init 71 = .ok (.invokevirtual 27, 3) := by decide +kernel
theorem dX0_init_74 : decode cX0_init 74 = .ok (.aload_n 0, 1) := by decide +kernel
theorem dX0_init_75 : decode cX0_init 75 = .ok (.iload_n 1, 1) := by decide +kernel
theorem dX0_init_76 : decode cX0_init 76 = .ok (.iconst 1, 1) := by decide +kernel
theorem dX0_init_77 : decode cX0_init 77 = .ok (.invokestatic 23, 3) := by decide +kernel
theorem dX0_init_80 : decode cX0_init 80 = .ok (.iconst 0, 1) := by decide +kernel
theorem dX0_init_81 : decode cX0_init 81 = .ok (.invokevirtual 27, 3) := by decide +kernel
theorem dX0_init_84 : decode cX0_init 84 = .ok (.aload_n 0, 1) := by decide +kernel
theorem dX0_init_85 : decode cX0_init 85 = .ok (.iload_n 1, 1) := by decide +kernel
theorem dX0_init_86 : decode cX0_init 86 = .ok (.iconst 2, 1) := by decide +kernel
theorem dX0_init_87 : decode cX0_init 87 = .ok (.invokestatic 23, 3) := by decide +kernel
theorem dX0_init_90 : decode cX0_init 90 = .ok (.iconst 0, 1) := by decide +kernel
theorem dX0_init_91 : decode cX0_init 91 = .ok (.invokevirtual 27, 3) := by decide +kernel
theorem dX0_init_94 : decode cX0_init 94 = .ok (.iinc 1 1, 3) := by decide +kernel
theorem dX0_init_97 : decode cX0_init 97 = .ok (.goto (-39), 3) := by decide +kernel
theorem dX0_init_100 : decode cX0_init 100 = .ok (.return_, 1) := by decide +kernel
theorem dX0_days_0 : decode cX0_days 0 = .ok (.ldc 31, 2) := by decide +kernel
theorem dX0_days_2 : decode cX0_days 2 = .ok (.ireturn, 1) := by decide +kernel
set_option maxRecDepth 20000 in
theorem ggX0_number_X0_checkDate : GoodIn wsX0_number wsX0_checkDate := goodIn_ca (goodIn_r _ [4, 5, 6, 7, 8, 3, 9, 10, 11, 12, 13, 14, 15, 16, 17, 18, 19, 20, 21] (by decide +kernel) (by decide +kernel)) (goodIn_sub (fun _ h => List.mem_cons_of_mem _ (List.mem_append_right _ h)) (by decide +kernel))
set_option maxRecDepth 20000 in
theorem gX0_number_X0_checkDate : GoodIn wsX0_number (va_wsS RX0 32 yX0_checkDate wsX0_checkDate) := goodIn_app (goodIn_of _ (by decide +kernel)) ggX0_number_X0_checkDate
set_option maxRecDepth 20000 in
theorem ggX0_number_X0_firstDayOf : GoodIn wsX0_number wsX0_firstDayOf := goodIn_r _ [24] (by decide +kernel) (by decide +kernel)
set_option maxRecDepth 20000 in
theorem gX0_number_X0_firstDayOf : GoodIn wsX0_number (va_wsS RX0 36 yX0_firstDayOf wsX0_firstDayOf) := goodIn_app (goodIn_of _ (by decide +kernel)) ggX0_number_X0_firstDayOf
set_option maxRecDepth 20000 in
theorem ggX0_number_X0_daysBefore : GoodIn wsX0_number wsX0_daysBefore := goodIn_r _ [27, 16, 17, 3, 18, 28, 29, 30, 19, 20, 21] (by decide +kernel) (by decide +kernel)
set_option maxRecDepth 20000 in
theorem gX0_number_X0_daysBefore : GoodIn wsX0_number (va_wsS RX0 40 yX0_daysBefore wsX0_daysBefore) := goodIn_app (goodIn_of _ (by decide +kernel)) ggX0_number_X0_daysBefore
theorem dX0_number_0 : decode cX0_number 0 = .ok (.iload_n 1, 1) := by decide +kernel
theorem dX0_number_1 : decode cX0_number 1 = .ok (.iload_n 2, 1) := by decide +kernel
theorem dX0_number_2 : decode cX0_number 2 = .ok (.iload_n 3, 1) := by decide +kernel
theorem dX0_number_3 : decode cX0_number 3 = .ok (.invokestatic 32, 3) := by decide +kernel
theorem dX0_number_6 : decode cX0_number 6 = .ok (.iload_n 1, 1) := by decide +kernel
theorem dX0_number_7 : decode cX0_number 7 = .ok (.invokestatic 36, 3) := by decide +kernel
theorem dX0_number_10 : decode cX0_number 10 = .ok (.iload_n 1, 1) := by decide +kernel
theorem dX0_number_11 : decode cX0_number 11 = .ok (.iload_n 2, 1) := by decide +kernel
theorem dX0_number_12 : decode cX0_number 12 = .ok (.invokestatic 40, 3) := by decide +kernel
theorem dX0_number_15 : decode cX0_number 15 = .ok (.iadd, 1) := by decide +kernel
theorem dX0_number_16 : decode cX0_number 16 = .ok (.iload_n 3, 1) := by decide +kernel
theorem dX0_number_17 : decode cX0_number 17 = .ok (.iadd, 1) := by decide +kernel
theorem dX0_number_18 : decode cX0_number 18 = .ok (.iconst 1, 1) := by decide +kernel
theorem dX0_number_19 : decode cX0_number 19 = .ok (.isub, 1) := by decide +kernel
theorem dX0_number_20 : decode cX0_number 20 = .ok (.ireturn, 1) := by decide +kernel
set_option maxRecDepth 20000 in
theorem ggX0_numberByCounting_X0_checkDate : GoodIn wsX0_numberByCounting wsX0_checkDate := goodIn_ca (goodIn_r _ [4, 5, 6, 7, 8, 3, 9, 10, 11, 12, 13, 14, 15, 16, 17, 18, 19, 20, 21] (by decide +kernel) (by decide +kernel)) (goodIn_sub (fun _ h => List.mem_cons_of_mem _ (List.mem_append_right _ h)) (by decide +kernel))
set_option maxRecDepth 20000 in
theorem gX0_numberByCounting_X0_checkDate : GoodIn wsX0_numberByCounting (va_wsS RX0 32 yX0_checkDate wsX0_checkDate) := goodIn_app (goodIn_of _ (by decide +kernel)) ggX0_numberByCounting_X0_checkDate
set_option maxRecDepth 20000 in
theorem ggX0_numberByCounting_X0_firstDayOf : GoodIn wsX0_numberByCounting wsX0_firstDayOf := goodIn_r _ [24] (by decide +kernel) (by decide +kernel)
set_option maxRecDepth 20000 in
theorem gX0_numberByCounting_X0_firstDayOf : GoodIn wsX0_numberByCounting (va_wsS RX0 36 yX0_firstDayOf wsX0_firstDayOf) := goodIn_app (goodIn_of _ (by decide +kernel)) ggX0_numberByCounting_X0_firstDayOf
set_option maxRecDepth 20000 in
theorem ggX0_numberByCounting_X0_lengthOf : GoodIn wsX0_numberByCounting wsX0_lengthOf := goodIn_r _ [15, 16, 17, 3, 18, 19, 20, 21] (by decide +kernel) (by decide +kernel)
set_option maxRecDepth 20000 in
theorem gX0_numberByCounting_X0_lengthOf : GoodIn wsX0_numberByCounting (va_wsS RX0 43 yX0_lengthOf wsX0_lengthOf) := goodIn_app (goodIn_of _ (by decide +kernel)) ggX0_numberByCounting_X0_lengthOf
theorem dX0_numberByCounting_0 : decode cX0_numberByCounting 0 = .ok (.iload_n 1, 1) := by decide +kernel
theorem dX0_numberByCounting_1 : decode cX0_numberByCounting 1 = .ok (.iload_n 2, 1) := by decide +kernel
theorem dX0_numberByCounting_2 : decode cX0_numberByCounting 2 = .ok (.iload_n 3, 1) := by decide +kernel
theorem dX0_numberByCounting_3 : decode cX0_numberByCounting 3 = .ok (.invokestatic 32, 3) := by decide +kernel
theorem dX0_numberByCounting_6 : decode cX0_numberByCounting 6 = .ok (.iload_n 1, 1) := by decide +kernel
theorem dX0_numberByCounting_7 : decode cX0_numberByCounting 7 = .ok (.invokestatic 36, 3) := by decide +kernel
theorem dX0_numberByCounting_10 : decode cX0_numberByCounting 10 = .ok (.istore 4, 2) := by decide +kernel
theorem dX0_numberByCounting_12 : decode cX0_numberByCounting 12 = .ok (.iconst 1, 1) := by decide +kernel
theorem dX0_numberByCounting_13 : decode cX0_numberByCounting 13 = .ok (.istore 5, 2) := by decide +kernel
theorem dX0_numberByCounting_15 : decode cX0_numberByCounting 15 = .ok (.iload 5, 2) := by decide +kernel
theorem dX0_numberByCounting_17 : decode cX0_numberByCounting 17 = .ok (.iload_n 2, 1) := by decide +kernel
theorem dX0_numberByCounting_18 : decode cX0_numberByCounting 18 = .ok (.if_icmp .ge 36, 3) := by decide +kernel
theorem dX0_numberByCounting_21 : decode cX0_numberByCounting 21 = .ok (.iload_n 1, 1) := by decide +kernel
theorem dX0_numberByCounting_22 : decode cX0_numberByCounting 22 = .ok (.iload 5, 2) := by decide +kernel
theorem dX0_numberByCounting_24 : decode cX0_numberByCounting 24 = .ok (.invokestatic 43, 3) := by decide +kernel
theorem dX0_numberByCounting_27 : decode cX0_numberByCounting 27 = .ok (.istore 6, 2) := by decide +kernel
theorem dX0_numberByCounting_29 : decode cX0_numberByCounting 29 = .ok (.iconst 1, 1) := by decide +kernel
theorem dX0_numberByCounting_30 : decode cX0_numberByCounting 30 = .ok (.istore 7, 2) := by decide +kernel
theorem dX0_numberByCounting_32 : decode cX0_numberByCounting 32 = .ok (.iload 7, 2) := by decide +kernel
theorem dX0_numberByCounting_34 : decode cX0_numberByCounting 34 = .ok (.iload 6, 2) := by decide +kernel
theorem dX0_numberByCounting_36 : decode cX0_numberByCounting 36 = .ok (.if_icmp .gt 12, 3) := by decide +kernel
theorem dX0_numberByCounting_39 : decode cX0_numberByCounting 39 = .ok (.iinc 4 1, 3) := by decide +kernel
theorem dX0_numberByCounting_42 : decode cX0_numberByCounting 42 = .ok (.iinc 7 1, 3) := by decide +kernel
theorem dX0_numberByCounting_45 : decode cX0_numberByCounting 45 = .ok (.goto (-13), 3) := by decide +kernel
theorem dX0_numberByCounting_48 : decode cX0_numberByCounting 48 = .ok (.iinc 5 1, 3) := by decide +kernel
theorem dX0_numberByCounting_51 : decode cX0_numberByCounting 51 = .ok (.goto (-36), 3) := by decide +kernel
theorem dX0_numberByCounting_54 : decode cX0_numberByCounting 54 = .ok (.iconst 1, 1) := by decide +kernel
theorem dX0_numberByCounting_55 : decode cX0_numberByCounting 55 = .ok (.istore 5, 2) := by decide +kernel
theorem dX0_numberByCounting_57 : decode cX0_numberByCounting 57 = .ok (.iload 5, 2) := by decide +kernel
theorem dX0_numberByCounting_59 : decode cX0_numberByCounting 59 = .ok (.iload_n 3, 1) := by decide +kernel
theorem dX0_numberByCounting_60 : decode cX0_numberByCounting 60 = .ok (.if_icmp .ge 12, 3) := by decide +kernel
theorem dX0_numberByCounting_63 : decode cX0_numberByCounting 63 = .ok (.iinc 4 1, 3) := by decide +kernel
theorem dX0_numberByCounting_66 : decode cX0_numberByCounting 66 = .ok (.iinc 5 1, 3) := by decide +kernel
theorem dX0_numberByCounting_69 : decode cX0_numberByCounting 69 = .ok (.goto (-12), 3) := by decide +kernel
theorem dX0_numberByCounting_72 : decode cX0_numberByCounting 72 = .ok (.iload 4, 2) := by decide +kernel
theorem dX0_numberByCounting_74 : decode cX0_numberByCounting 74 = .ok (.ireturn, 1) := by decide +kernel
set_option maxRecDepth 20000 in
theorem ggX0_yearOf_X0_checkNumber : GoodIn wsX0_yearOf wsX0_checkNumber := goodIn_ca (goodIn_r _ [4, 5, 6, 7] (by decide +kernel) (by decide +kernel)) (goodIn_sub (fun _ h => List.mem_cons_of_mem _ (List.mem_append_right _ h)) (by decide +kernel))
set_option maxRecDepth 20000 in
theorem gX0_yearOf_X0_checkNumber : GoodIn wsX0_yearOf (va_wsS RX0 46 yX0_checkNumber wsX0_checkNumber) := goodIn_app (goodIn_of _ (by decide +kernel)) ggX0_yearOf_X0_checkNumber
set_option maxRecDepth 20000 in
theorem ggX0_yearOf_X0_yearAt : GoodIn wsX0_yearOf wsX0_yearAt := goodIn_r _ [10, 11, 12, 13, 14] (by decide +kernel) (by decide +kernel)
set_option maxRecDepth 20000 in
theorem gX0_yearOf_X0_yearAt : GoodIn wsX0_yearOf (va_wsS RX0 50 yX0_yearAt wsX0_yearAt) := goodIn_app (goodIn_of _ (by decide +kernel)) ggX0_yearOf_X0_yearAt
theorem dX0_yearOf_0 : decode cX0_yearOf 0 = .ok (.iload_n 1, 1) := by decide +kernel
theorem dX0_yearOf_1 : decode cX0_yearOf 1 = .ok (.invokestatic 46, 3) := by decide +kernel
theorem dX0_yearOf_4 : decode cX0_yearOf 4 = .ok (.iload_n 1, 1) := by decide +kernel
theorem dX0_yearOf_5 : decode cX0_yearOf 5 = .ok (.invokestatic 50, 3) := by decide +kernel
theorem dX0_yearOf_8 : decode cX0_yearOf 8 = .ok (.ireturn, 1) := by decide +kernel
set_option maxRecDepth 20000 in
theorem ggX0_monthOf_X0_checkNumber : GoodIn wsX0_monthOf wsX0_checkNumber := goodIn_ca (goodIn_r _ [4, 5, 6, 7] (by decide +kernel) (by decide +kernel)) (goodIn_sub (fun _ h => List.mem_cons_of_mem _ (List.mem_append_right _ h)) (by decide +kernel))
set_option maxRecDepth 20000 in
theorem gX0_monthOf_X0_checkNumber : GoodIn wsX0_monthOf (va_wsS RX0 46 yX0_checkNumber wsX0_checkNumber) := goodIn_app (goodIn_of _ (by decide +kernel)) ggX0_monthOf_X0_checkNumber
set_option maxRecDepth 20000 in
theorem ggX0_monthOf_X0_placeAt : GoodIn wsX0_monthOf wsX0_placeAt := goodIn_r _ [10, 11, 12, 3, 13, 14, 15, 16] (by decide +kernel) (by decide +kernel)
set_option maxRecDepth 20000 in
theorem gX0_monthOf_X0_placeAt : GoodIn wsX0_monthOf (va_wsS RX0 53 yX0_placeAt wsX0_placeAt) := goodIn_app (goodIn_of _ (by decide +kernel)) ggX0_monthOf_X0_placeAt
set_option maxRecDepth 20000 in
theorem ggX0_monthOf_X0_monthOfPlace : GoodIn wsX0_monthOf wsX0_monthOfPlace := goodIn_r _ [19, 20, 21, 3, 22] (by decide +kernel) (by decide +kernel)
set_option maxRecDepth 20000 in
theorem gX0_monthOf_X0_monthOfPlace : GoodIn wsX0_monthOf (va_wsS RX0 56 yX0_monthOfPlace wsX0_monthOfPlace) := goodIn_app (goodIn_of _ (by decide +kernel)) ggX0_monthOf_X0_monthOfPlace
theorem dX0_monthOf_0 : decode cX0_monthOf 0 = .ok (.iload_n 1, 1) := by decide +kernel
theorem dX0_monthOf_1 : decode cX0_monthOf 1 = .ok (.invokestatic 46, 3) := by decide +kernel
theorem dX0_monthOf_4 : decode cX0_monthOf 4 = .ok (.iload_n 1, 1) := by decide +kernel
theorem dX0_monthOf_5 : decode cX0_monthOf 5 = .ok (.invokestatic 53, 3) := by decide +kernel
theorem dX0_monthOf_8 : decode cX0_monthOf 8 = .ok (.invokestatic 56, 3) := by decide +kernel
theorem dX0_monthOf_11 : decode cX0_monthOf 11 = .ok (.ireturn, 1) := by decide +kernel
set_option maxRecDepth 20000 in
theorem ggX0_dayOf_X0_checkNumber : GoodIn wsX0_dayOf wsX0_checkNumber := goodIn_ca (goodIn_r _ [4, 5, 6, 7] (by decide +kernel) (by decide +kernel)) (goodIn_sub (fun _ h => List.mem_cons_of_mem _ (List.mem_append_right _ h)) (by decide +kernel))
set_option maxRecDepth 20000 in
theorem gX0_dayOf_X0_checkNumber : GoodIn wsX0_dayOf (va_wsS RX0 46 yX0_checkNumber wsX0_checkNumber) := goodIn_app (goodIn_of _ (by decide +kernel)) ggX0_dayOf_X0_checkNumber
set_option maxRecDepth 20000 in
theorem ggX0_dayOf_X0_yearAt : GoodIn wsX0_dayOf wsX0_yearAt := goodIn_r _ [10, 11, 12, 13, 14] (by decide +kernel) (by decide +kernel)
set_option maxRecDepth 20000 in
theorem gX0_dayOf_X0_yearAt : GoodIn wsX0_dayOf (va_wsS RX0 50 yX0_yearAt wsX0_yearAt) := goodIn_app (goodIn_of _ (by decide +kernel)) ggX0_dayOf_X0_yearAt
set_option maxRecDepth 20000 in
theorem ggX0_dayOf_X0_placeAt : GoodIn wsX0_dayOf wsX0_placeAt := goodIn_r _ [17, 18, 19, 3, 20, 21, 22, 23] (by decide +kernel) (by decide +kernel)
set_option maxRecDepth 20000 in
theorem gX0_dayOf_X0_placeAt : GoodIn wsX0_dayOf (va_wsS RX0 53 yX0_placeAt wsX0_placeAt) := goodIn_app (goodIn_of _ (by decide +kernel)) ggX0_dayOf_X0_placeAt
set_option maxRecDepth 20000 in
theorem ggX0_dayOf_X0_monthOfPlace : GoodIn wsX0_dayOf wsX0_monthOfPlace := goodIn_r _ [26, 27, 28, 3, 29] (by decide +kernel) (by decide +kernel)
set_option maxRecDepth 20000 in
theorem gX0_dayOf_X0_monthOfPlace : GoodIn wsX0_dayOf (va_wsS RX0 56 yX0_monthOfPlace wsX0_monthOfPlace) := goodIn_app (goodIn_of _ (by decide +kernel)) ggX0_dayOf_X0_monthOfPlace
set_option maxRecDepth 20000 in
theorem ggX0_dayOf_X0_firstDayOf : GoodIn wsX0_dayOf wsX0_firstDayOf := goodIn_r _ [32] (by decide +kernel) (by decide +kernel)
set_option maxRecDepth 20000 in
theorem gX0_dayOf_X0_firstDayOf : GoodIn wsX0_dayOf (va_wsS RX0 36 yX0_firstDayOf wsX0_firstDayOf) := goodIn_app (goodIn_of _ (by decide +kernel)) ggX0_dayOf_X0_firstDayOf
set_option maxRecDepth 20000 in
theorem ggX0_dayOf_X0_daysBefore : GoodIn wsX0_dayOf wsX0_daysBefore := goodIn_r _ [35, 36, 37, 3, 38, 39, 40, 41, 27, 28, 29] (by decide +kernel) (by decide +kernel)
set_option maxRecDepth 20000 in
theorem gX0_dayOf_X0_daysBefore : GoodIn wsX0_dayOf (va_wsS RX0 40 yX0_daysBefore wsX0_daysBefore) := goodIn_app (goodIn_of _ (by decide +kernel)) ggX0_dayOf_X0_daysBefore
theorem dX0_dayOf_0 : decode cX0_dayOf 0 = .ok (.iload_n 1, 1) := by decide +kernel
theorem dX0_dayOf_1 : decode cX0_dayOf 1 = .ok (.invokestatic 46, 3) := by decide +kernel
theorem dX0_dayOf_4 : decode cX0_dayOf 4 = .ok (.iload_n 1, 1) := by decide +kernel
theorem dX0_dayOf_5 : decode cX0_dayOf 5 = .ok (.invokestatic 50, 3) := by decide +kernel
theorem dX0_dayOf_8 : decode cX0_dayOf 8 = .ok (.istore_n 2, 1) := by decide +kernel
theorem dX0_dayOf_9 : decode cX0_dayOf 9 = .ok (.iload_n 1, 1) := by decide +kernel
theorem dX0_dayOf_10 : decode cX0_dayOf 10 = .ok (.invokestatic 53, 3) := by decide +kernel
theorem dX0_dayOf_13 : decode cX0_dayOf 13 = .ok (.invokestatic 56, 3) := by decide +kernel
theorem dX0_dayOf_16 : decode cX0_dayOf 16 = .ok (.istore_n 3, 1) := by decide +kernel
theorem dX0_dayOf_17 : decode cX0_dayOf 17 = .ok (.iload_n 1, 1) := by decide +kernel
theorem dX0_dayOf_18 : decode cX0_dayOf 18 = .ok (.iload_n 2, 1) := by decide +kernel
theorem dX0_dayOf_19 : decode cX0_dayOf 19 = .ok (.invokestatic 36, 3) := by decide +kernel
theorem dX0_dayOf_22 : decode cX0_dayOf 22 = .ok (.isub, 1) := by decide +kernel
theorem dX0_dayOf_23 : decode cX0_dayOf 23 = .ok (.iload_n 2, 1) := by decide +kernel
theorem dX0_dayOf_24 : decode cX0_dayOf 24 = .ok (.iload_n 3, 1) := by decide +kernel
theorem dX0_dayOf_25 : decode cX0_dayOf 25 = .ok (.invokestatic 40, 3) := by decide +kernel
theorem dX0_dayOf_28 : decode cX0_dayOf 28 = .ok (.isub, 1) := by decide +kernel
theorem dX0_dayOf_29 : decode cX0_dayOf 29 = .ok (.iconst 1, 1) := by decide +kernel
theorem dX0_dayOf_30 : decode cX0_dayOf 30 = .ok (.iadd, 1) := by decide +kernel
theorem dX0_dayOf_31 : decode cX0_dayOf 31 = .ok (.ireturn, 1) := by decide +kernel
set_option maxRecDepth 20000 in
theorem ggX0_weekdayOf_X0_checkNumber : GoodIn wsX0_weekdayOf wsX0_checkNumber := goodIn_ca (goodIn_r _ [4, 5, 6, 7] (by decide +kernel) (by decide +kernel)) (goodIn_sub (fun _ h => List.mem_cons_of_mem _ (List.mem_append_right _ h)) (by decide +kernel))
set_option maxRecDepth 20000 in
theorem gX0_weekdayOf_X0_checkNumber : GoodIn wsX0_weekdayOf (va_wsS RX0 46 yX0_checkNumber wsX0_checkNumber) := goodIn_app (goodIn_of _ (by decide +kernel)) ggX0_weekdayOf_X0_checkNumber
theorem dX0_weekdayOf_0 : decode cX0_weekdayOf 0 = .ok (.iload_n 1, 1) := by decide +kernel
theorem dX0_weekdayOf_1 : decode cX0_weekdayOf 1 = .ok (.invokestatic 46, 3) := by decide +kernel
theorem dX0_weekdayOf_4 : decode cX0_weekdayOf 4 = .ok (.iload_n 1, 1) := by decide +kernel
theorem dX0_weekdayOf_5 : decode cX0_weekdayOf 5 = .ok (.bipush 7, 2) := by decide +kernel
theorem dX0_weekdayOf_7 : decode cX0_weekdayOf 7 = .ok (.iadd, 1) := by decide +kernel
theorem dX0_weekdayOf_8 : decode cX0_weekdayOf 8 = .ok (.iconst 1, 1) := by decide +kernel
theorem dX0_weekdayOf_9 : decode cX0_weekdayOf 9 = .ok (.isub, 1) := by decide +kernel
theorem dX0_weekdayOf_10 : decode cX0_weekdayOf 10 = .ok (.bipush 7, 2) := by decide +kernel
theorem dX0_weekdayOf_12 : decode cX0_weekdayOf 12 = .ok (.irem, 1) := by decide +kernel
theorem dX0_weekdayOf_13 : decode cX0_weekdayOf 13 = .ok (.ireturn, 1) := by decide +kernel
set_option maxRecDepth 20000 in
theorem ggX0_anchorOf_X0_checkNumber : GoodIn wsX0_anchorOf wsX0_checkNumber := goodIn_ca (goodIn_r _ [4, 5, 6, 7] (by decide +kernel) (by decide +kernel)) (goodIn_sub (fun _ h => List.mem_cons_of_mem _ (List.mem_append_right _ h)) (by decide +kernel))
set_option maxRecDepth 20000 in
theorem gX0_anchorOf_X0_checkNumber : GoodIn wsX0_anchorOf (va_wsS RX0 46 yX0_checkNumber wsX0_checkNumber) := goodIn_app (goodIn_of _ (by decide +kernel)) ggX0_anchorOf_X0_checkNumber
set_option maxRecDepth 20000 in
theorem ggX0_anchorOf_X0_placeAt : GoodIn wsX0_anchorOf wsX0_placeAt := goodIn_r _ [10, 11, 12, 3, 13, 14, 15, 16] (by decide +kernel) (by decide +kernel)
set_option maxRecDepth 20000 in
theorem gX0_anchorOf_X0_placeAt : GoodIn wsX0_anchorOf (va_wsS RX0 53 yX0_placeAt wsX0_placeAt) := goodIn_app (goodIn_of _ (by decide +kernel)) ggX0_anchorOf_X0_placeAt
set_option maxRecDepth 20000 in
theorem ggX0_anchorOf_X0_anchorOfPlace : GoodIn wsX0_anchorOf wsX0_anchorOfPlace := goodIn_r _ [19, 20, 21, 3, 22, 23, 24, 25, 26, 27, 28, 29, 30, 31, 32, 33, 34, 35, 36, 37] (by decide +kernel) (by decide +kernel)
set_option maxRecDepth 20000 in
theorem gX0_anchorOf_X0_anchorOfPlace : GoodIn wsX0_anchorOf (va_wsS RX0 59 yX0_anchorOfPlace wsX0_anchorOfPlace) := goodIn_app (goodIn_of _ (by decide +kernel)) ggX0_anchorOf_X0_anchorOfPlace
theorem dX0_anchorOf_0 : decode cX0_anchorOf 0 = .ok (.iload_n 1, 1) := by decide +kernel
theorem dX0_anchorOf_1 : decode cX0_anchorOf 1 = .ok (.invokestatic 46, 3) := by decide +kernel
theorem dX0_anchorOf_4 : decode cX0_anchorOf 4 = .ok (.iload_n 1, 1) := by decide +kernel
theorem dX0_anchorOf_5 : decode cX0_anchorOf 5 = .ok (.invokestatic 53, 3) := by decide +kernel
theorem dX0_anchorOf_8 : decode cX0_anchorOf 8 = .ok (.invokestatic 59, 3) := by decide +kernel
theorem dX0_anchorOf_11 : decode cX0_anchorOf 11 = .ok (.ireturn, 1) := by decide +kernel
set_option maxRecDepth 20000 in
theorem ggX0_anchorMonthOf_X0_checkNumber : GoodIn wsX0_anchorMonthOf wsX0_checkNumber := goodIn_ca (goodIn_r _ [4, 5, 6, 7] (by decide +kernel) (by decide +kernel)) (goodIn_sub (fun _ h => List.mem_cons_of_mem _ (List.mem_append_right _ h)) (by decide +kernel))
set_option maxRecDepth 20000 in
theorem gX0_anchorMonthOf_X0_checkNumber : GoodIn wsX0_anchorMonthOf (va_wsS RX0 46 yX0_checkNumber wsX0_checkNumber) := goodIn_app (goodIn_of _ (by decide +kernel)) ggX0_anchorMonthOf_X0_checkNumber
set_option maxRecDepth 20000 in
theorem ggX0_anchorMonthOf_X0_placeAt : GoodIn wsX0_anchorMonthOf wsX0_placeAt := goodIn_r _ [10, 11, 12, 3, 13, 14, 15, 16] (by decide +kernel) (by decide +kernel)
set_option maxRecDepth 20000 in
theorem gX0_anchorMonthOf_X0_placeAt : GoodIn wsX0_anchorMonthOf (va_wsS RX0 53 yX0_placeAt wsX0_placeAt) := goodIn_app (goodIn_of _ (by decide +kernel)) ggX0_anchorMonthOf_X0_placeAt
set_option maxRecDepth 20000 in
theorem ggX0_anchorMonthOf_X0_monthOfPlace : GoodIn wsX0_anchorMonthOf wsX0_monthOfPlace := goodIn_r _ [19, 20, 21, 3, 22] (by decide +kernel) (by decide +kernel)
set_option maxRecDepth 20000 in
theorem gX0_anchorMonthOf_X0_monthOfPlace : GoodIn wsX0_anchorMonthOf (va_wsS RX0 56 yX0_monthOfPlace wsX0_monthOfPlace) := goodIn_app (goodIn_of _ (by decide +kernel)) ggX0_anchorMonthOf_X0_monthOfPlace
set_option maxRecDepth 20000 in
theorem ggX0_anchorMonthOf_X0_isBehindIdes : GoodIn wsX0_anchorMonthOf wsX0_isBehindIdes := goodIn_r _ [25, 17, 18, 3, 19, 20, 21, 22, 26, 27, 28, 29, 30, 31, 32, 33, 34] (by decide +kernel) (by decide +kernel)
set_option maxRecDepth 20000 in
theorem gX0_anchorMonthOf_X0_isBehindIdes : GoodIn wsX0_anchorMonthOf (va_wsS RX0 62 yX0_isBehindIdes wsX0_isBehindIdes) := goodIn_app (goodIn_of _ (by decide +kernel)) ggX0_anchorMonthOf_X0_isBehindIdes
theorem dX0_anchorMonthOf_0 : decode cX0_anchorMonthOf 0 = .ok (.iload_n 1, 1) := by decide +kernel
theorem dX0_anchorMonthOf_1 : decode cX0_anchorMonthOf 1 = .ok (.invokestatic 46, 3) := by decide +kernel
theorem dX0_anchorMonthOf_4 : decode cX0_anchorMonthOf 4 = .ok (.iload_n 1, 1) := by decide +kernel
theorem dX0_anchorMonthOf_5 : decode cX0_anchorMonthOf 5 = .ok (.invokestatic 53, 3) := by decide +kernel
theorem dX0_anchorMonthOf_8 : decode cX0_anchorMonthOf 8 = .ok (.istore_n 2, 1) := by decide +kernel
theorem dX0_anchorMonthOf_9 : decode cX0_anchorMonthOf 9 = .ok (.iload_n 2, 1) := by decide +kernel
theorem dX0_anchorMonthOf_10 : decode cX0_anchorMonthOf 10 = .ok (.invokestatic 56, 3) := by decide +kernel
theorem dX0_anchorMonthOf_13 : decode cX0_anchorMonthOf 13 = .ok (.istore_n 3, 1) := by decide +kernel
theorem dX0_anchorMonthOf_14 : decode cX0_anchorMonthOf 14 = .ok (.iload_n 2, 1) := by decide +kernel
theorem dX0_anchorMonthOf_15 : decode cX0_anchorMonthOf 15 = .ok (.invokestatic 62, 3) := by decide +kernel
theorem dX0_anchorMonthOf_18 : decode cX0_anchorMonthOf 18 = .ok (.ifCond .eq 12, 3) := by decide +kernel
theorem dX0_anchorMonthOf_21 : decode cX0_anchorMonthOf 21 = .ok (.iload_n 3, 1) := by decide +kernel
theorem dX0_anchorMonthOf_22 : decode cX0_anchorMonthOf 22 = .ok (.bipush 12, 2) := by decide +kernel
theorem dX0_anchorMonthOf_24 : decode cX0_anchorMonthOf 24 = .ok (.irem, 1) := by decide +kernel
theorem dX0_anchorMonthOf_25 : decode cX0_anchorMonthOf 25 = .ok (.iconst 1, 1) := by decide +kernel
theorem dX0_anchorMonthOf_26 : decode cX0_anchorMonthOf 26 = .ok (.iadd, 1) := by decide +kernel
theorem dX0_anchorMonthOf_27 : decode cX0_anchorMonthOf 27 = .ok (.goto 4, 3) := by decide +kernel
theorem dX0_anchorMonthOf_30 : decode cX0_anchorMonthOf 30 = .ok (.iload_n 3, 1) := by decide +kernel
theorem dX0_anchorMonthOf_31 : decode cX0_anchorMonthOf 31 = .ok (.ireturn, 1) := by decide +kernel
set_option maxRecDepth 20000 in
theorem ggX0_countOf_X0_checkNumber : GoodIn wsX0_countOf wsX0_checkNumber := goodIn_ca (goodIn_r _ [4, 5, 6, 7] (by decide +kernel) (by decide +kernel)) (goodIn_sub (fun _ h => List.mem_cons_of_mem _ (List.mem_append_right _ h)) (by decide +kernel))
set_option maxRecDepth 20000 in
theorem gX0_countOf_X0_checkNumber : GoodIn wsX0_countOf (va_wsS RX0 46 yX0_checkNumber wsX0_checkNumber) := goodIn_app (goodIn_of _ (by decide +kernel)) ggX0_countOf_X0_checkNumber
set_option maxRecDepth 20000 in
theorem ggX0_countOf_X0_placeAt : GoodIn wsX0_countOf wsX0_placeAt := goodIn_r _ [10, 11, 12, 3, 13, 14, 15, 16] (by decide +kernel) (by decide +kernel)
set_option maxRecDepth 20000 in
theorem gX0_countOf_X0_placeAt : GoodIn wsX0_countOf (va_wsS RX0 53 yX0_placeAt wsX0_placeAt) := goodIn_app (goodIn_of _ (by decide +kernel)) ggX0_countOf_X0_placeAt
set_option maxRecDepth 20000 in
theorem ggX0_countOf_X0_monthOfPlace : GoodIn wsX0_countOf wsX0_monthOfPlace := goodIn_r _ [19, 20, 21, 3, 22] (by decide +kernel) (by decide +kernel)
set_option maxRecDepth 20000 in
theorem gX0_countOf_X0_monthOfPlace : GoodIn wsX0_countOf (va_wsS RX0 56 yX0_monthOfPlace wsX0_monthOfPlace) := goodIn_app (goodIn_of _ (by decide +kernel)) ggX0_countOf_X0_monthOfPlace
set_option maxRecDepth 20000 in
theorem ggX0_countOf_X0_isBehindIdes : GoodIn wsX0_countOf wsX0_isBehindIdes := goodIn_r _ [25, 17, 18, 3, 19, 20, 21, 22, 26, 27, 28, 29, 30, 31, 32, 33, 34] (by decide +kernel) (by decide +kernel)
set_option maxRecDepth 20000 in
theorem gX0_countOf_X0_isBehindIdes : GoodIn wsX0_countOf (va_wsS RX0 62 yX0_isBehindIdes wsX0_isBehindIdes) := goodIn_app (goodIn_of _ (by decide +kernel)) ggX0_countOf_X0_isBehindIdes
set_option maxRecDepth 20000 in
theorem ggX0_countOf_X0_placeOfAnchor : GoodIn wsX0_countOf wsX0_placeOfAnchor := goodIn_r _ [28, 29, 30, 3, 31, 20, 21, 22, 32, 33, 34] (by decide +kernel) (by decide +kernel)
set_option maxRecDepth 20000 in
theorem gX0_countOf_X0_placeOfAnchor : GoodIn wsX0_countOf (va_wsS RX0 23 yX0_placeOfAnchor wsX0_placeOfAnchor) := goodIn_app (goodIn_of _ (by decide +kernel)) ggX0_countOf_X0_placeOfAnchor
set_option maxRecDepth 20000 in
theorem ggX0_countOf_X0_anchorOfPlace : GoodIn wsX0_countOf wsX0_anchorOfPlace := goodIn_r _ [37, 17, 18, 3, 19, 20, 21, 22, 26, 27, 28, 29, 30, 31, 32, 33, 34, 23, 24, 25] (by decide +kernel) (by decide +kernel)
set_option maxRecDepth 20000 in
theorem gX0_countOf_X0_anchorOfPlace : GoodIn wsX0_countOf (va_wsS RX0 59 yX0_anchorOfPlace wsX0_anchorOfPlace) := goodIn_app (goodIn_of _ (by decide +kernel)) ggX0_countOf_X0_anchorOfPlace
theorem dX0_countOf_0 : decode cX0_countOf 0 = .ok (.iload_n 1, 1) := by decide +kernel
theorem dX0_countOf_1 : decode cX0_countOf 1 = .ok (.invokestatic 46, 3) := by decide +kernel
theorem dX0_countOf_4 : decode cX0_countOf 4 = .ok (.iload_n 1, 1) := by decide +kernel
theorem dX0_countOf_5 : decode cX0_countOf 5 = .ok (.invokestatic 53, 3) := by decide +kernel
theorem dX0_countOf_8 : decode cX0_countOf 8 = .ok (.istore_n 2, 1) := by decide +kernel
theorem dX0_countOf_9 : decode cX0_countOf 9 = .ok (.iload_n 2, 1) := by decide +kernel
theorem dX0_countOf_10 : decode cX0_countOf 10 = .ok (.invokestatic 56, 3) := by decide +kernel
theorem dX0_countOf_13 : decode cX0_countOf 13 = .ok (.istore_n 3, 1) := by decide +kernel
theorem dX0_countOf_14 : decode cX0_countOf 14 = .ok (.iload_n 2, 1) := by decide +kernel
theorem dX0_countOf_15 : decode cX0_countOf 15 = .ok (.invokestatic 62, 3) := by decide +kernel
theorem dX0_countOf_18 : decode cX0_countOf 18 = .ok (.ifCond .eq 13, 3) := by decide +kernel
theorem dX0_countOf_21 : decode cX0_countOf 21 = .ok (.iload_n 3, 1) := by decide +kernel
theorem dX0_countOf_22 : decode cX0_countOf 22 = .ok (.iconst 1, 1) := by decide +kernel
theorem dX0_countOf_23 : decode cX0_countOf 23 = .ok (.iadd, 1) := by decide +kernel
theorem dX0_countOf_24 : decode cX0_countOf 24 = .ok (.iconst 0, 1) := by decide +kernel
theorem dX0_countOf_25 : decode cX0_countOf 25 = .ok (.invokestatic 23, 3) := by decide +kernel
theorem dX0_countOf_28 : decode cX0_countOf 28 = .ok (.goto 11, 3) := by decide +kernel
theorem dX0_countOf_31 : decode cX0_countOf 31 = .ok (.iload_n 3, 1) := by decide +kernel
theorem dX0_countOf_32 : decode cX0_countOf 32 = .ok (.iload_n 2, 1) := by decide +kernel
theorem dX0_countOf_33 : decode cX0_countOf 33 = .ok (.invokestatic 59, 3) := by decide +kernel
theorem dX0_countOf_36 : decode cX0_countOf 36 = .ok (.invokestatic 23, 3) := by decide +kernel
theorem dX0_countOf_39 : decode cX0_countOf 39 = .ok (.istore 4, 2) := by decide +kernel
theorem dX0_countOf_41 : decode cX0_countOf 41 = .ok (.iload 4, 2) := by decide +kernel
theorem dX0_countOf_43 : decode cX0_countOf 43 = .ok (.iload_n 2, 1) := by decide +kernel
theorem dX0_countOf_44 : decode cX0_countOf 44 = .ok (.isub, 1) := by decide +kernel
theorem dX0_countOf_45 : decode cX0_countOf 45 = .ok (.iconst 1, 1) := by decide +kernel
theorem dX0_countOf_46 : decode cX0_countOf 46 = .ok (.iadd, 1) := by decide +kernel
theorem dX0_countOf_47 : decode cX0_countOf 47 = .ok (.ireturn, 1) := by decide +kernel
set_option maxRecDepth 20000 in
theorem ggX0_isDoubled_X0_checkNumber : GoodIn wsX0_isDoubled wsX0_checkNumber := goodIn_ca (goodIn_r _ [4, 5, 6, 7] (by decide +kernel) (by decide +kernel)) (goodIn_sub (fun _ h => List.mem_cons_of_mem _ (List.mem_append_right _ h)) (by decide +kernel))
set_option maxRecDepth 20000 in
theorem gX0_isDoubled_X0_checkNumber : GoodIn wsX0_isDoubled (va_wsS RX0 46 yX0_checkNumber wsX0_checkNumber) := goodIn_app (goodIn_of _ (by decide +kernel)) ggX0_isDoubled_X0_checkNumber
theorem dX0_isDoubled_0 : decode cX0_isDoubled 0 = .ok (.iload_n 1, 1) := by decide +kernel
theorem dX0_isDoubled_1 : decode cX0_isDoubled 1 = .ok (.invokestatic 46, 3) := by decide +kernel
theorem dX0_isDoubled_4 : decode cX0_isDoubled 4 = .ok (.iload_n 1, 1) := by decide +kernel
theorem dX0_isDoubled_5 : decode cX0_isDoubled 5 = .ok (.sipush 1461, 3) := by decide +kernel
theorem dX0_isDoubled_8 : decode cX0_isDoubled 8 = .ok (.irem, 1) := by decide +kernel
theorem dX0_isDoubled_9 : decode cX0_isDoubled 9 = .ok (.sipush 1149, 3) := by decide +kernel
theorem dX0_isDoubled_12 : decode cX0_isDoubled 12 = .ok (.if_icmp .ne 7, 3) := by decide +kernel
theorem dX0_isDoubled_15 : decode cX0_isDoubled 15 = .ok (.iconst 1, 1) := by decide +kernel
theorem dX0_isDoubled_16 : decode cX0_isDoubled 16 = .ok (.goto 4, 3) := by decide +kernel
theorem dX0_isDoubled_19 : decode cX0_isDoubled 19 = .ok (.iconst 0, 1) := by decide +kernel
theorem dX0_isDoubled_20 : decode cX0_isDoubled 20 = .ok (.ireturn, 1) := by decide +kernel
set_option maxRecDepth 20000 in
theorem ggX0_fromCount_X0_checkYear : GoodIn wsX0_fromCount wsX0_checkYear := goodIn_ca (goodIn_r _ [8, 9, 10] (by decide +kernel) (by decide +kernel)) (goodIn_sub (fun _ h => List.mem_cons_of_mem _ (List.mem_append_right _ h)) (by decide +kernel))
set_option maxRecDepth 20000 in
theorem gX0_fromCount_X0_checkYear : GoodIn wsX0_fromCount (va_wsS RX0 66 yX0_checkYear wsX0_checkYear) := goodIn_app (goodIn_of _ (by decide +kernel)) ggX0_fromCount_X0_checkYear
set_option maxRecDepth 20000 in
theorem ggX0_fromCount_X0_checkMonth : GoodIn wsX0_fromCount wsX0_checkMonth := goodIn_ca (goodIn_r _ [13, 9, 10] (by decide +kernel) (by decide +kernel)) (goodIn_sub (fun _ h => List.mem_cons_of_mem _ (List.mem_append_right _ h)) (by decide +kernel))
set_option maxRecDepth 20000 in
theorem gX0_fromCount_X0_checkMonth : GoodIn wsX0_fromCount (va_wsS RX0 69 yX0_checkMonth wsX0_checkMonth) := goodIn_app (goodIn_of _ (by decide +kernel)) ggX0_fromCount_X0_checkMonth
set_option maxRecDepth 20000 in
theorem ggX0_fromCount_X0_checkAnchor : GoodIn wsX0_fromCount wsX0_checkAnchor := goodIn_ca (goodIn_r _ [16, 1, 2] (by decide +kernel) (by decide +kernel)) (goodIn_sub (fun _ h => List.mem_cons_of_mem _ (List.mem_append_left _ (List.mem_append_left _ (List.mem_append_right _ h)))) (by decide +kernel))
set_option maxRecDepth 20000 in
theorem gX0_fromCount_X0_checkAnchor : GoodIn wsX0_fromCount (va_wsS RX0 72 yX0_checkAnchor wsX0_checkAnchor) := goodIn_app (goodIn_of _ (by decide +kernel)) ggX0_fromCount_X0_checkAnchor
set_option maxRecDepth 20000 in
theorem ggX0_fromCount_X0_greatestCountTo : GoodIn wsX0_fromCount wsX0_greatestCountTo := goodIn_r _ [19, 20, 21, 7, 22, 23, 24, 25] (by decide +kernel) (by decide +kernel)
set_option maxRecDepth 20000 in
theorem gX0_fromCount_X0_greatestCountTo : GoodIn wsX0_fromCount (va_wsS RX0 82 yX0_greatestCountTo wsX0_greatestCountTo) := goodIn_app (goodIn_of _ (by decide +kernel)) ggX0_fromCount_X0_greatestCountTo
set_option maxRecDepth 20000 in
theorem ggX0_fromCount_X0_isToldAsDoubled : GoodIn wsX0_fromCount wsX0_isToldAsDoubled := goodIn_r _ [28, 29, 30, 7, 31] (by decide +kernel) (by decide +kernel)
set_option maxRecDepth 20000 in
theorem gX0_fromCount_X0_isToldAsDoubled : GoodIn wsX0_fromCount (va_wsS RX0 90 yX0_isToldAsDoubled wsX0_isToldAsDoubled) := goodIn_app (goodIn_of _ (by decide +kernel)) ggX0_fromCount_X0_isToldAsDoubled
set_option maxRecDepth 20000 in
theorem ggX0_fromCount_X0_placeOfAnchor : GoodIn wsX0_fromCount wsX0_placeOfAnchor := goodIn_r _ [34, 35, 36, 7, 37, 23, 24, 25, 20, 21, 22] (by decide +kernel) (by decide +kernel)
set_option maxRecDepth 20000 in
theorem gX0_fromCount_X0_placeOfAnchor : GoodIn wsX0_fromCount (va_wsS RX0 23 yX0_placeOfAnchor wsX0_placeOfAnchor) := goodIn_app (goodIn_of _ (by decide +kernel)) ggX0_fromCount_X0_placeOfAnchor
set_option maxRecDepth 20000 in
theorem ggX0_fromCount_X0_lastDayOfPlace : GoodIn wsX0_fromCount wsX0_lastDayOfPlace := goodIn_r _ [40, 29, 30, 7, 31, 41, 42, 43] (by decide +kernel) (by decide +kernel)
set_option maxRecDepth 20000 in
theorem gX0_fromCount_X0_lastDayOfPlace : GoodIn wsX0_fromCount (va_wsS RX0 96 yX0_lastDayOfPlace wsX0_lastDayOfPlace) := goodIn_app (goodIn_of _ (by decide +kernel)) ggX0_fromCount_X0_lastDayOfPlace
theorem dX0_fromCount_0 : decode cX0_fromCount 0 = .ok (.iload_n 1, 1) := by decide +kernel
theorem dX0_fromCount_1 : decode cX0_fromCount 1 = .ok (.invokestatic 66, 3) := by decide +kernel
theorem dX0_fromCount_4 : decode cX0_fromCount 4 = .ok (.iload_n 2, 1) := by decide +kernel
theorem dX0_fromCount_5 : decode cX0_fromCount 5 = .ok (.invokestatic 69, 3) := by decide +kernel
theorem dX0_fromCount_8 : decode cX0_fromCount 8 = .ok (.iload_n 3, 1) := by decide +kernel
theorem dX0_fromCount_9 : decode cX0_fromCount 9 = .ok (.invokestatic 72, 3) := by decide +kernel
theorem dX0_fromCount_12 : decode cX0_fromCount 12 = .ok (.iload 4, 2) := by decide +kernel
theorem dX0_fromCount_14 : decode cX0_fromCount 14 = .ok (.iconst 1, 1) := by decide +kernel
theorem dX0_fromCount_15 : decode cX0_fromCount 15 = .ok (.if_icmp .ge 13, 3) := by decide +kernel
theorem dX0_fromCount_18 : decode cX0_fromCount 18 = .ok (.new 75, 3) := by decide +kernel
theorem dX0_fromCount_21 : decode cX0_fromCount 21 = .ok (.dup, 1) := by decide +kernel
theorem dX0_fromCount_22 : decode cX0_fromCount 22 = .ok (.ldc 77, 2) := by decide +kernel
theorem dX0_fromCount_24 : decode cX0_fromCount 24 = .ok (.invokespecial 79, 3) := by decide +kernel
theorem dX0_fromCount_27 : decode cX0_fromCount 27 = .ok (.athrow, 1) := by decide +kernel
theorem dX0_fromCount_28 : decode cX0_fromCount 28 = .ok (.iload 4, 2) := by decide +kernel
theorem dX0_fromCount_30 : decode cX0_fromCount 30 = .ok (.iload_n 2, 1) := by decide +kernel
theorem dX0_fromCount_31 : decode cX0_fromCount 31 = .ok (.iload_n 3, 1) := by decide +kernel
theorem dX0_fromCount_32 : decode cX0_fromCount 32 = .ok (.invokestatic 82, 3) := by decide +kernel
theorem dX0_fromCount_35 : decode cX0_fromCount 35 = .ok (.if_icmp .le 13, 3) := by decide +kernel
theorem dX0_fromCount_38 : decode cX0_fromCount 38 = .ok (.new 85, 3) := by decide +kernel
theorem dX0_fromCount_41 : decode cX0_fromCount 41 = .ok (.dup, 1) := by decide +kernel
theorem dX0_fromCount_42 : decode cX0_fromCount 42 = .ok (.ldc 87, 2) := by decide +kernel
theorem dX0_fromCount_44 : decode cX0_fromCount 44 = .ok (.invokespecial 89, 3) := by decide +kernel
theorem dX0_fromCount_47 : decode cX0_fromCount 47 = .ok (.athrow, 1) := by decide +kernel
theorem dX0_fromCount_48 : decode cX0_fromCount 48 = .ok (.iload 5, 2) := by decide +kernel
theorem dX0_fromCount_50 : decode cX0_fromCount 50 = .ok (.ifCond .eq 24, 3) := by decide +kernel
theorem dX0_fromCount_53 : decode cX0_fromCount 53 = .ok (.iload_n 1, 1) := by decide +kernel
theorem dX0_fromCount_54 : decode cX0_fromCount 54 = .ok (.iload_n 2, 1) := by decide +kernel
theorem dX0_fromCount_55 : decode cX0_fromCount 55 = .ok (.iload_n 3, 1) := by decide +kernel
theorem dX0_fromCount_56 : decode cX0_fromCount 56 = .ok (.iload 4, 2) := by decide +kernel
theorem dX0_fromCount_58 : decode cX0_fromCount 58 = .ok (.invokestatic 90, 3) := by decide +kernel
theorem dX0_fromCount_61 : decode cX0_fromCount 61 = .ok (.ifCond .ne 13, 3) := by decide +kernel
theorem dX0_fromCount_64 : decode cX0_fromCount 64 = .ok (.new 85, 3) := by decide +kernel
theorem dX0_fromCount_67 : decode cX0_fromCount 67 = .ok (.dup, 1) := by decide +kernel
theorem dX0_fromCount_68 : decode cX0_fromCount 68 = .ok (.ldc 94, 2) := by decide +kernel
theorem dX0_fromCount_70 : decode cX0_fromCount 70 = .ok (.invokespecial 89, 3) := by decide +kernel
theorem dX0_fromCount_73 : decode cX0_fromCount 73 = .ok (.athrow, 1) := by decide +kernel
theorem dX0_fromCount_74 : decode cX0_fromCount 74 = .ok (.iload_n 2, 1) := by decide +kernel
theorem dX0_fromCount_75 : decode cX0_fromCount 75 = .ok (.iload_n 3, 1) := by decide +kernel
theorem dX0_fromCount_76 : decode cX0_fromCount 76 = .ok (.invokestatic 23, 3) := by decide +kernel
theorem dX0_fromCount_79 : decode cX0_fromCount 79 = .ok (.iload 4, 2) := by decide +kernel
theorem dX0_fromCount_81 : decode cX0_fromCount 81 = .ok (.isub, 1) := by decide +kernel
theorem dX0_fromCount_82 : decode cX0_fromCount 82 = .ok (.iconst 1, 1) := by decide +kernel
theorem dX0_fromCount_83 : decode cX0_fromCount 83 = .ok (.iadd, 1) := by decide +kernel
theorem dX0_fromCount_84 : decode cX0_fromCount 84 = .ok (.istore 6, 2) := by decide +kernel
theorem dX0_fromCount_86 : decode cX0_fromCount 86 = .ok (.iload 6, 2) := by decide +kernel
theorem dX0_fromCount_88 : decode cX0_fromCount 88 = .ok (.iconst 1, 1) := by decide +kernel
theorem dX0_fromCount_89 : decode cX0_fromCount 89 = .ok (.if_icmp .ge 9, 3) := by decide +kernel
theorem dX0_fromCount_92 : decode cX0_fromCount 92 = .ok (.iinc 6 365, 6) := by decide +kernel
theorem dX0_fromCount_98 : decode cX0_fromCount 98 = .ok (.iload_n 1, 1) := by decide +kernel
theorem dX0_fromCount_99 : decode cX0_fromCount 99 = .ok (.iload 6, 2) := by decide +kernel
theorem dX0_fromCount_101 : decode cX0_fromCount 101 = .ok (.invokestatic 96, 3) := by decide +kernel
theorem dX0_fromCount_104 : decode cX0_fromCount 104 = .ok (.istore 7, 2) := by decide +kernel
theorem dX0_fromCount_106 : decode cX0_fromCount 106 = .ok (.iload 5, 2) := by decide +kernel
theorem dX0_fromCount_108 : decode cX0_fromCount 108 = .ok (.ifCond .eq 10, 3) := by decide +kernel
theorem dX0_fromCount_111 : decode cX0_fromCount 111 = .ok (.iload 7, 2) := by decide +kernel
theorem dX0_fromCount_113 : decode cX0_fromCount 113 = .ok (.iconst 1, 1) := by decide +kernel
theorem dX0_fromCount_114 : decode cX0_fromCount 114 = .ok (.isub, 1) := by decide +kernel
theorem dX0_fromCount_115 : decode cX0_fromCount 115 = .ok (.goto 5, 3) := by decide +kernel
theorem dX0_fromCount_118 : decode cX0_fromCount 118 = .ok (.iload 7, 2) := by decide +kernel
theorem dX0_fromCount_120 : decode cX0_fromCount 120 = .ok (.ireturn, 1) := by decide +kernel
set_option maxRecDepth 20000 in
theorem ggX0_greatestCount_X0_checkYear : GoodIn wsX0_greatestCount wsX0_checkYear := goodIn_ca (goodIn_r _ [4, 5, 6] (by decide +kernel) (by decide +kernel)) (goodIn_sub (fun _ h => List.mem_cons_of_mem _ (List.mem_append_left _ (List.mem_append_right _ h))) (by decide +kernel))
set_option maxRecDepth 20000 in
theorem gX0_greatestCount_X0_checkYear : GoodIn wsX0_greatestCount (va_wsS RX0 66 yX0_checkYear wsX0_checkYear) := goodIn_app (goodIn_of _ (by decide +kernel)) ggX0_greatestCount_X0_checkYear
set_option maxRecDepth 20000 in
theorem ggX0_greatestCount_X0_checkMonth : GoodIn wsX0_greatestCount wsX0_checkMonth := goodIn_ca (goodIn_r _ [9, 5, 6] (by decide +kernel) (by decide +kernel)) (goodIn_sub (fun _ h => List.mem_cons_of_mem _ (List.mem_append_left _ (List.mem_append_right _ h))) (by decide +kernel))
set_option maxRecDepth 20000 in
theorem gX0_greatestCount_X0_checkMonth : GoodIn wsX0_greatestCount (va_wsS RX0 69 yX0_checkMonth wsX0_checkMonth) := goodIn_app (goodIn_of _ (by decide +kernel)) ggX0_greatestCount_X0_checkMonth
set_option maxRecDepth 20000 in
theorem ggX0_greatestCount_X0_checkAnchor : GoodIn wsX0_greatestCount wsX0_checkAnchor := goodIn_ca (goodIn_r _ [12, 13, 14] (by decide +kernel) (by decide +kernel)) (goodIn_sub (fun _ h => List.mem_cons_of_mem _ (List.mem_append_right _ h)) (by decide +kernel))
set_option maxRecDepth 20000 in
theorem gX0_greatestCount_X0_checkAnchor : GoodIn wsX0_greatestCount (va_wsS RX0 72 yX0_checkAnchor wsX0_checkAnchor) := goodIn_app (goodIn_of _ (by decide +kernel)) ggX0_greatestCount_X0_checkAnchor
set_option maxRecDepth 20000 in
theorem ggX0_greatestCount_X0_greatestCountTo : GoodIn wsX0_greatestCount wsX0_greatestCountTo := goodIn_r _ [17, 18, 19, 3, 20, 21, 22, 23] (by decide +kernel) (by decide +kernel)
set_option maxRecDepth 20000 in
theorem gX0_greatestCount_X0_greatestCountTo : GoodIn wsX0_greatestCount (va_wsS RX0 82 yX0_greatestCountTo wsX0_greatestCountTo) := goodIn_app (goodIn_of _ (by decide +kernel)) ggX0_greatestCount_X0_greatestCountTo
theorem dX0_greatestCount_0 : decode cX0_greatestCount 0 = .ok (.iload_n 1, 1) := by decide +kernel
theorem dX0_greatestCount_1 : decode cX0_greatestCount 1 = .ok (.invokestatic 66, 3) := by decide +kernel
theorem dX0_greatestCount_4 : decode cX0_greatestCount 4 = .ok (.iload_n 2, 1) := by decide +kernel
theorem dX0_greatestCount_5 : decode cX0_greatestCount 5 = .ok (.invokestatic 69, 3) := by decide +kernel
theorem dX0_greatestCount_8 : decode cX0_greatestCount 8 = .ok (.iload_n 3, 1) := by decide +kernel
theorem dX0_greatestCount_9 : decode cX0_greatestCount 9 = .ok (.invokestatic 72, 3) := by decide +kernel
theorem dX0_greatestCount_12 : decode cX0_greatestCount 12 = .ok (.iload_n 2, 1) := by decide +kernel
theorem dX0_greatestCount_13 : decode cX0_greatestCount 13 = .ok (.iload_n 3, 1) := by decide +kernel
theorem dX0_greatestCount_14 : decode cX0_greatestCount 14 = .ok (.invokestatic 82, 3) := by decide +kernel
theorem dX0_greatestCount_17 : decode cX0_greatestCount 17 = .ok (.ireturn, 1) := by decide +kernel
set_option maxRecDepth 20000 in
theorem ggX0_lawNumber_X0_checkNumber : GoodIn wsX0_lawNumber wsX0_checkNumber := goodIn_ca (goodIn_r _ [4, 5, 6, 7] (by decide +kernel) (by decide +kernel)) (goodIn_sub (fun _ h => List.mem_cons_of_mem _ (List.mem_append_right _ h)) (by decide +kernel))
set_option maxRecDepth 20000 in
theorem gX0_lawNumber_X0_checkNumber : GoodIn wsX0_lawNumber (va_wsS RX0 46 yX0_checkNumber wsX0_checkNumber) := goodIn_app (goodIn_of _ (by decide +kernel)) ggX0_lawNumber_X0_checkNumber
set_option maxRecDepth 20000 in
theorem ggX0_lawNumber_X0_lawNumberAt : GoodIn wsX0_lawNumber wsX0_lawNumberAt := goodIn_r _ [10, 11, 12, 3, 13] (by decide +kernel) (by decide +kernel)
set_option maxRecDepth 20000 in
theorem gX0_lawNumber_X0_lawNumberAt : GoodIn wsX0_lawNumber (va_wsS RX0 99 yX0_lawNumberAt wsX0_lawNumberAt) := goodIn_app (goodIn_of _ (by decide +kernel)) ggX0_lawNumber_X0_lawNumberAt
theorem dX0_lawNumber_0 : decode cX0_lawNumber 0 = .ok (.iload_n 1, 1) := by decide +kernel
theorem dX0_lawNumber_1 : decode cX0_lawNumber 1 = .ok (.invokestatic 46, 3) := by decide +kernel
theorem dX0_lawNumber_4 : decode cX0_lawNumber 4 = .ok (.iload_n 1, 1) := by decide +kernel
theorem dX0_lawNumber_5 : decode cX0_lawNumber 5 = .ok (.invokestatic 99, 3) := by decide +kernel
theorem dX0_lawNumber_8 : decode cX0_lawNumber 8 = .ok (.ireturn, 1) := by decide +kernel
set_option maxRecDepth 20000 in
theorem ggX0_termEnd_X0_checkNumber : GoodIn wsX0_termEnd wsX0_checkNumber := goodIn_ca (goodIn_r _ [10, 11, 12, 13] (by decide +kernel) (by decide +kernel)) (goodIn_sub (fun _ h => List.mem_cons_of_mem _ (List.mem_append_right _ h)) (by decide +kernel))
set_option maxRecDepth 20000 in
theorem gX0_termEnd_X0_checkNumber : GoodIn wsX0_termEnd (va_wsS RX0 46 yX0_checkNumber wsX0_checkNumber) := goodIn_app (goodIn_of _ (by decide +kernel)) ggX0_termEnd_X0_checkNumber
set_option maxRecDepth 20000 in
theorem ggX0_termEnd_X0_lawNumberAt : GoodIn wsX0_termEnd wsX0_lawNumberAt := goodIn_r _ [16, 17, 18, 9, 19] (by decide +kernel) (by decide +kernel)
set_option maxRecDepth 20000 in
theorem gX0_termEnd_X0_lawNumberAt : GoodIn wsX0_termEnd (va_wsS RX0 99 yX0_lawNumberAt wsX0_lawNumberAt) := goodIn_app (goodIn_of _ (by decide +kernel)) ggX0_termEnd_X0_lawNumberAt
set_option maxRecDepth 20000 in
theorem ggX0_termEnd_X0_lastDayOfPlace : GoodIn wsX0_termEnd wsX0_lastDayOfPlace := goodIn_r _ [22, 23, 24, 9, 25, 26, 27, 28] (by decide +kernel) (by decide +kernel)
set_option maxRecDepth 20000 in
theorem gX0_termEnd_X0_lastDayOfPlace : GoodIn wsX0_termEnd (va_wsS RX0 96 yX0_lastDayOfPlace wsX0_lastDayOfPlace) := goodIn_app (goodIn_of _ (by decide +kernel)) ggX0_termEnd_X0_lastDayOfPlace
theorem dX0_termEnd_0 : decode cX0_termEnd 0 = .ok (.iload_n 1, 1) := by decide +kernel
theorem dX0_termEnd_1 : decode cX0_termEnd 1 = .ok (.invokestatic 46, 3) := by decide +kernel
theorem dX0_termEnd_4 : decode cX0_termEnd 4 = .ok (.iload_n 2, 1) := by decide +kernel
theorem dX0_termEnd_5 : decode cX0_termEnd 5 = .ok (.ifCond .lt 9, 3) := by decide +kernel
theorem dX0_termEnd_8 : decode cX0_termEnd 8 = .ok (.iload_n 2, 1) := by decide +kernel
theorem dX0_termEnd_9 : decode cX0_termEnd 9 = .ok (.ldc 102, 2) := by decide +kernel
theorem dX0_termEnd_11 : decode cX0_termEnd 11 = .ok (.if_icmp .le 13, 3) := by decide +kernel
theorem dX0_termEnd_14 : decode cX0_termEnd 14 = .ok (.new 75, 3) := by decide +kernel
theorem dX0_termEnd_17 : decode cX0_termEnd 17 = .ok (.dup, 1) := by decide +kernel
theorem dX0_termEnd_18 : decode cX0_termEnd 18 = .ok (.ldc 103, 2) := by decide +kernel
theorem dX0_termEnd_20 : decode cX0_termEnd 20 = .ok (.invokespecial 79, 3) := by decide +kernel
theorem dX0_termEnd_23 : decode cX0_termEnd 23 = .ok (.athrow, 1) := by decide +kernel
theorem dX0_termEnd_24 : decode cX0_termEnd 24 = .ok (.iload_n 1, 1) := by decide +kernel
theorem dX0_termEnd_25 : decode cX0_termEnd 25 = .ok (.invokestatic 99, 3) := by decide +kernel
theorem dX0_termEnd_28 : decode cX0_termEnd 28 = .ok (.iload_n 2, 1) := by decide +kernel
theorem dX0_termEnd_29 : decode cX0_termEnd 29 = .ok (.iadd, 1) := by decide +kernel
theorem dX0_termEnd_30 : decode cX0_termEnd 30 = .ok (.istore_n 3, 1) := by decide +kernel
theorem dX0_termEnd_31 : decode cX0_termEnd 31 = .ok (.iload_n 3, 1) := by decide +kernel
theorem dX0_termEnd_32 : decode cX0_termEnd 32 = .ok (.ldc 105, 2) := by decide +kernel
theorem dX0_termEnd_34 : decode cX0_termEnd 34 = .ok (.invokestatic 99, 3) := by decide +kernel
theorem dX0_termEnd_37 : decode cX0_termEnd 37 = .ok (.if_icmp .le 13, 3) := by decide +kernel
theorem dX0_termEnd_40 : decode cX0_termEnd 40 = .ok (.new 85, 3) := by decide +kernel
theorem dX0_termEnd_43 : decode cX0_termEnd 43 = .ok (.dup, 1) := by decide +kernel
theorem dX0_termEnd_44 : decode cX0_termEnd 44 = .ok (.ldc 106, 2) := by decide +kernel
theorem dX0_termEnd_46 : decode cX0_termEnd 46 = .ok (.invokespecial 89, 3) := by decide +kernel
theorem dX0_termEnd_49 : decode cX0_termEnd 49 = .ok (.athrow, 1) := by decide +kernel
theorem dX0_termEnd_50 : decode cX0_termEnd 50 = .ok (.iload_n 3, 1) := by decide +kernel
theorem dX0_termEnd_51 : decode cX0_termEnd 51 = .ok (.sipush 365, 3) := by decide +kernel
theorem dX0_termEnd_54 : decode cX0_termEnd 54 = .ok (.idiv, 1) := by decide +kernel
theorem dX0_termEnd_55 : decode cX0_termEnd 55 = .ok (.iconst 1, 1) := by decide +kernel
theorem dX0_termEnd_56 : decode cX0_termEnd 56 = .ok (.iadd, 1) := by decide +kernel
theorem dX0_termEnd_57 : decode cX0_termEnd 57 = .ok (.iload_n 3, 1) := by decide +kernel
theorem dX0_termEnd_58 : decode cX0_termEnd 58 = .ok (.sipush 365, 3) := by decide +kernel
theorem dX0_termEnd_61 : decode cX0_termEnd 61 = .ok (.irem, 1) := by decide +kernel
theorem dX0_termEnd_62 : decode cX0_termEnd 62 = .ok (.iconst 1, 1) := by decide +kernel
theorem dX0_termEnd_63 : decode cX0_termEnd 63 = .ok (.iadd, 1) := by decide +kernel
theorem dX0_termEnd_64 : decode cX0_termEnd 64 = .ok (.invokestatic 96, 3) := by decide +kernel
theorem dX0_termEnd_67 : decode cX0_termEnd 67 = .ok (.ireturn, 1) := by decide +kernel
set_option maxRecDepth 20000 in
theorem ggX0_lawDays_X0_checkNumber : GoodIn wsX0_lawDays wsX0_checkNumber := goodIn_ca (goodIn_r _ [4, 5, 6, 7] (by decide +kernel) (by decide +kernel)) (goodIn_sub (fun _ h => List.mem_cons_of_mem _ (List.mem_append_right _ h)) (by decide +kernel))
set_option maxRecDepth 20000 in
theorem gX0_lawDays_X0_checkNumber : GoodIn wsX0_lawDays (va_wsS RX0 46 yX0_checkNumber wsX0_checkNumber) := goodIn_app (goodIn_of _ (by decide +kernel)) ggX0_lawDays_X0_checkNumber
set_option maxRecDepth 20000 in
theorem ggX0_lawDays_X0_lawNumberAt : GoodIn wsX0_lawDays wsX0_lawNumberAt := goodIn_r _ [10, 11, 12, 3, 13] (by decide +kernel) (by decide +kernel)
set_option maxRecDepth 20000 in
theorem gX0_lawDays_X0_lawNumberAt : GoodIn wsX0_lawDays (va_wsS RX0 99 yX0_lawNumberAt wsX0_lawNumberAt) := goodIn_app (goodIn_of _ (by decide +kernel)) ggX0_lawDays_X0_lawNumberAt
theorem dX0_lawDays_0 : decode cX0_lawDays 0 = .ok (.iload_n 1, 1) := by decide +kernel
theorem dX0_lawDays_1 : decode cX0_lawDays 1 = .ok (.invokestatic 46, 3) := by decide +kernel
theorem dX0_lawDays_4 : decode cX0_lawDays 4 = .ok (.iload_n 2, 1) := by decide +kernel
theorem dX0_lawDays_5 : decode cX0_lawDays 5 = .ok (.invokestatic 46, 3) := by decide +kernel
theorem dX0_lawDays_8 : decode cX0_lawDays 8 = .ok (.iload_n 2, 1) := by decide +kernel
theorem dX0_lawDays_9 : decode cX0_lawDays 9 = .ok (.invokestatic 99, 3) := by decide +kernel
theorem dX0_lawDays_12 : decode cX0_lawDays 12 = .ok (.iload_n 1, 1) := by decide +kernel
theorem dX0_lawDays_13 : decode cX0_lawDays 13 = .ok (.invokestatic 99, 3) := by decide +kernel
theorem dX0_lawDays_16 : decode cX0_lawDays 16 = .ok (.isub, 1) := by decide +kernel
theorem dX0_lawDays_17 : decode cX0_lawDays 17 = .ok (.ireturn, 1) := by decide +kernel
set_option maxRecDepth 20000 in
theorem ggX0_placeOf_X0_checkNumber : GoodIn wsX0_placeOf wsX0_checkNumber := goodIn_ca (goodIn_r _ [4, 5, 6, 7] (by decide +kernel) (by decide +kernel)) (goodIn_sub (fun _ h => List.mem_cons_of_mem _ (List.mem_append_right _ h)) (by decide +kernel))
set_option maxRecDepth 20000 in
theorem gX0_placeOf_X0_checkNumber : GoodIn wsX0_placeOf (va_wsS RX0 46 yX0_checkNumber wsX0_checkNumber) := goodIn_app (goodIn_of _ (by decide +kernel)) ggX0_placeOf_X0_checkNumber
set_option maxRecDepth 20000 in
theorem ggX0_placeOf_X0_placeAt : GoodIn wsX0_placeOf wsX0_placeAt := goodIn_r _ [10, 11, 12, 3, 13, 14, 15, 16] (by decide +kernel) (by decide +kernel)
set_option maxRecDepth 20000 in
theorem gX0_placeOf_X0_placeAt : GoodIn wsX0_placeOf (va_wsS RX0 53 yX0_placeAt wsX0_placeAt) := goodIn_app (goodIn_of _ (by decide +kernel)) ggX0_placeOf_X0_placeAt
theorem dX0_placeOf_0 : decode cX0_placeOf 0 = .ok (.iload_n 1, 1) := by decide +kernel
theorem dX0_placeOf_1 : decode cX0_placeOf 1 = .ok (.invokestatic 46, 3) := by decide +kernel
theorem dX0_placeOf_4 : decode cX0_placeOf 4 = .ok (.iload_n 1, 1) := by decide +kernel
theorem dX0_placeOf_5 : decode cX0_placeOf 5 = .ok (.invokestatic 53, 3) := by decide +kernel
theorem dX0_placeOf_8 : decode cX0_placeOf 8 = .ok (.ireturn, 1) := by decide +kernel
set_option maxRecDepth 20000 in
theorem ggX0_letterOfEight_X0_checkNumber : GoodIn wsX0_letterOfEight wsX0_checkNumber := goodIn_ca (goodIn_r _ [4, 5, 6, 7] (by decide +kernel) (by decide +kernel)) (goodIn_sub (fun _ h => List.mem_cons_of_mem _ (List.mem_append_right _ h)) (by decide +kernel))
set_option maxRecDepth 20000 in
theorem gX0_letterOfEight_X0_checkNumber : GoodIn wsX0_letterOfEight (va_wsS RX0 46 yX0_checkNumber wsX0_checkNumber) := goodIn_app (goodIn_of _ (by decide +kernel)) ggX0_letterOfEight_X0_checkNumber
set_option maxRecDepth 20000 in
theorem ggX0_letterOfEight_X0_eightLetterAt : GoodIn wsX0_letterOfEight wsX0_eightLetterAt := goodIn_r _ [10, 11, 12, 3, 13, 14, 15, 16, 17, 18, 19] (by decide +kernel) (by decide +kernel)
set_option maxRecDepth 20000 in
theorem gX0_letterOfEight_X0_eightLetterAt : GoodIn wsX0_letterOfEight (va_wsS RX0 108 yX0_eightLetterAt wsX0_eightLetterAt) := goodIn_app (goodIn_of _ (by decide +kernel)) ggX0_letterOfEight_X0_eightLetterAt
theorem dX0_letterOfEight_0 : decode cX0_letterOfEight 0 = .ok (.iload_n 1, 1) := by decide +kernel
theorem dX0_letterOfEight_1 : decode cX0_letterOfEight 1 = .ok (.invokestatic 46, 3) := by decide +kernel
theorem dX0_letterOfEight_4 : decode cX0_letterOfEight 4 = .ok (.iload_n 1, 1) := by decide +kernel
theorem dX0_letterOfEight_5 : decode cX0_letterOfEight 5 = .ok (.invokestatic 108, 3) := by decide +kernel
theorem dX0_letterOfEight_8 : decode cX0_letterOfEight 8 = .ok (.ireturn, 1) := by decide +kernel
set_option maxRecDepth 20000 in
theorem ggX0_letterOfSeven_X0_checkNumber : GoodIn wsX0_letterOfSeven wsX0_checkNumber := goodIn_ca (goodIn_r _ [4, 5, 6, 7] (by decide +kernel) (by decide +kernel)) (goodIn_sub (fun _ h => List.mem_cons_of_mem _ (List.mem_append_right _ h)) (by decide +kernel))
set_option maxRecDepth 20000 in
theorem gX0_letterOfSeven_X0_checkNumber : GoodIn wsX0_letterOfSeven (va_wsS RX0 46 yX0_checkNumber wsX0_checkNumber) := goodIn_app (goodIn_of _ (by decide +kernel)) ggX0_letterOfSeven_X0_checkNumber
set_option maxRecDepth 20000 in
theorem ggX0_letterOfSeven_X0_sevenLetterAt : GoodIn wsX0_letterOfSeven wsX0_sevenLetterAt := goodIn_r _ [10, 11, 12, 3, 13, 14, 15, 16, 17, 18, 19] (by decide +kernel) (by decide +kernel)
set_option maxRecDepth 20000 in
theorem gX0_letterOfSeven_X0_sevenLetterAt : GoodIn wsX0_letterOfSeven (va_wsS RX0 111 yX0_sevenLetterAt wsX0_sevenLetterAt) := goodIn_app (goodIn_of _ (by decide +kernel)) ggX0_letterOfSeven_X0_sevenLetterAt
theorem dX0_letterOfSeven_0 : decode cX0_letterOfSeven 0 = .ok (.iload_n 1, 1) := by decide +kernel
theorem dX0_letterOfSeven_1 : decode cX0_letterOfSeven 1 = .ok (.invokestatic 46, 3) := by decide +kernel
theorem dX0_letterOfSeven_4 : decode cX0_letterOfSeven 4 = .ok (.iload_n 1, 1) := by decide +kernel
theorem dX0_letterOfSeven_5 : decode cX0_letterOfSeven 5 = .ok (.invokestatic 111, 3) := by decide +kernel
theorem dX0_letterOfSeven_8 : decode cX0_letterOfSeven 8 = .ok (.ireturn, 1) := by decide +kernel
set_option maxRecDepth 20000 in
theorem ggX0_setMarketDay_X0_checkNumber : GoodIn wsX0_setMarketDay wsX0_checkNumber := goodIn_ca (goodIn_r _ [5, 6, 7, 8] (by decide +kernel) (by decide +kernel)) (goodIn_sub (fun _ h => List.mem_cons_of_mem _ (List.mem_append_right _ h)) (by decide +kernel))
set_option maxRecDepth 20000 in
theorem gX0_setMarketDay_X0_checkNumber : GoodIn wsX0_setMarketDay (va_wsS RX0 46 yX0_checkNumber wsX0_checkNumber) := goodIn_app (goodIn_of _ (by decide +kernel)) ggX0_setMarketDay_X0_checkNumber
theorem dX0_setMarketDay_0 : decode cX0_setMarketDay 0 = .ok (.iload_n 1, 1) := by decide +kernel
theorem dX0_setMarketDay_1 : decode cX0_setMarketDay 1 = .ok (.invokestatic 46, 3) := by decide +kernel
theorem dX0_setMarketDay_4 : decode cX0_setMarketDay 4 = .ok (.aload_n 0, 1) := by decide +kernel
theorem dX0_setMarketDay_5 : decode cX0_setMarketDay 5 = .ok (.getfield 19, 3) := by decide +kernel
theorem dX0_setMarketDay_8 : decode cX0_setMarketDay 8 = .ok (.istore_n 2, 1) := by decide +kernel
theorem dX0_setMarketDay_9 : decode cX0_setMarketDay 9 = .ok (.aload_n 0, 1) := by decide +kernel
theorem dX0_setMarketDay_10 : decode cX0_setMarketDay 10 = .ok (.iload_n 1, 1) := by decide +kernel
theorem dX0_setMarketDay_11 : decode cX0_setMarketDay 11 = .ok (.bipush 8, 2) := by decide +kernel
theorem dX0_setMarketDay_13 : decode cX0_setMarketDay 13 = .ok (.irem, 1) := by decide +kernel
theorem dX0_setMarketDay_14 : decode cX0_setMarketDay 14 = .ok (.putfield 19, 3) := by decide +kernel
theorem dX0_setMarketDay_17 : decode cX0_setMarketDay 17 = .ok (.iload_n 2, 1) := by decide +kernel
theorem dX0_setMarketDay_18 : decode cX0_setMarketDay 18 = .ok (.ireturn, 1) := by decide +kernel
set_option maxRecDepth 20000 in
theorem ggX0_isMarket_X0_checkNumber : GoodIn wsX0_isMarket wsX0_checkNumber := goodIn_ca (goodIn_r _ [4, 5, 6, 7] (by decide +kernel) (by decide +kernel)) (goodIn_sub (fun _ h => List.mem_cons_of_mem _ (List.mem_append_right _ h)) (by decide +kernel))
set_option maxRecDepth 20000 in
theorem gX0_isMarket_X0_checkNumber : GoodIn wsX0_isMarket (va_wsS RX0 46 yX0_checkNumber wsX0_checkNumber) := goodIn_app (goodIn_of _ (by decide +kernel)) ggX0_isMarket_X0_checkNumber
set_option maxRecDepth 20000 in
theorem ggX0_isMarket_X0_isMarketAt : GoodIn wsX0_isMarket wsX0_isMarketAt := goodIn_r _ [11, 12, 13, 14, 15, 16] (by decide +kernel) (by decide +kernel)
set_option maxRecDepth 20000 in
theorem gX0_isMarket_X0_isMarketAt : GoodIn wsX0_isMarket (wsV RX0 114 RX0 yX0_isMarketAt wsX0_isMarketAt) := goodIn_app (goodIn_of _ (by decide +kernel)) ggX0_isMarket_X0_isMarketAt
theorem dX0_isMarket_0 : decode cX0_isMarket 0 = .ok (.iload_n 1, 1) := by decide +kernel
theorem dX0_isMarket_1 : decode cX0_isMarket 1 = .ok (.invokestatic 46, 3) := by decide +kernel
theorem dX0_isMarket_4 : decode cX0_isMarket 4 = .ok (.aload_n 0, 1) := by decide +kernel
theorem dX0_isMarket_5 : decode cX0_isMarket 5 = .ok (.iload_n 1, 1) := by decide +kernel
theorem dX0_isMarket_6 : decode cX0_isMarket 6 = .ok (.invokevirtual 114, 3) := by decide +kernel
theorem dX0_isMarket_9 : decode cX0_isMarket 9 = .ok (.ireturn, 1) := by decide +kernel
set_option maxRecDepth 20000 in
theorem ggX0_marketLetters_X0_checkYear : GoodIn wsX0_marketLetters wsX0_checkYear := goodIn_ca (goodIn_r _ [5, 6, 7] (by decide +kernel) (by decide +kernel)) (goodIn_sub (fun _ h => List.mem_cons_of_mem _ (List.mem_append_right _ h)) (by decide +kernel))
set_option maxRecDepth 20000 in
theorem gX0_marketLetters_X0_checkYear : GoodIn wsX0_marketLetters (va_wsS RX0 66 yX0_checkYear wsX0_checkYear) := goodIn_app (goodIn_of _ (by decide +kernel)) ggX0_marketLetters_X0_checkYear
set_option maxRecDepth 20000 in
theorem ggX0_marketLetters_X0_firstDayOf : GoodIn wsX0_marketLetters wsX0_firstDayOf := goodIn_r _ [10] (by decide +kernel) (by decide +kernel)
set_option maxRecDepth 20000 in
theorem gX0_marketLetters_X0_firstDayOf : GoodIn wsX0_marketLetters (va_wsS RX0 36 yX0_firstDayOf wsX0_firstDayOf) := goodIn_app (goodIn_of _ (by decide +kernel)) ggX0_marketLetters_X0_firstDayOf
set_option maxRecDepth 20000 in
theorem ggX0_marketLetters_X0_lastDayOf : GoodIn wsX0_marketLetters wsX0_lastDayOf := goodIn_r _ [13, 8, 9, 4, 10] (by decide +kernel) (by decide +kernel)
set_option maxRecDepth 20000 in
theorem gX0_marketLetters_X0_lastDayOf : GoodIn wsX0_marketLetters (va_wsS RX0 117 yX0_lastDayOf wsX0_lastDayOf) := goodIn_app (goodIn_of _ (by decide +kernel)) ggX0_marketLetters_X0_lastDayOf
set_option maxRecDepth 20000 in
theorem ggX0_marketLetters_J9_floorMod_7cf53 : GoodIn wsX0_marketLetters wsJ9_floorMod_7cf53 := goodIn_r _ [17] (by decide +kernel) (by decide +kernel)
set_option maxRecDepth 20000 in
theorem gX0_marketLetters_J9_floorMod_7cf53 : GoodIn wsX0_marketLetters (va_wsS RX0 120 yJ9_floorMod_7cf53 wsJ9_floorMod_7cf53) := goodIn_app (goodIn_of _ (by decide +kernel)) ggX0_marketLetters_J9_floorMod_7cf53
set_option maxRecDepth 20000 in
theorem ggX0_marketLetters_X0_eightLetterAt : GoodIn wsX0_marketLetters wsX0_eightLetterAt := goodIn_r _ [20, 21, 22, 4, 23, 24, 25, 26, 27, 28, 29] (by decide +kernel) (by decide +kernel)
set_option maxRecDepth 20000 in
theorem gX0_marketLetters_X0_eightLetterAt : GoodIn wsX0_marketLetters (va_wsS RX0 108 yX0_eightLetterAt wsX0_eightLetterAt) := goodIn_app (goodIn_of _ (by decide +kernel)) ggX0_marketLetters_X0_eightLetterAt
theorem dX0_marketLetters_0 : decode cX0_marketLetters 0 = .ok (.iload_n 1, 1) := by decide +kernel
theorem dX0_marketLetters_1 : decode cX0_marketLetters 1 = .ok (.invokestatic 66, 3) := by decide +kernel
theorem dX0_marketLetters_4 : decode cX0_marketLetters 4 = .ok (.iload_n 1, 1) := by decide +kernel
theorem dX0_marketLetters_5 : decode cX0_marketLetters 5 = .ok (.invokestatic 36, 3) := by decide +kernel
theorem dX0_marketLetters_8 : decode cX0_marketLetters 8 = .ok (.istore_n 2, 1) := by decide +kernel
theorem dX0_marketLetters_9 : decode cX0_marketLetters 9 = .ok (.iload_n 1, 1) := by decide +kernel
theorem dX0_marketLetters_10 : decode cX0_marketLetters 10 = .ok (.invokestatic 117, 3) := by decide +kernel
theorem dX0_marketLetters_13 : decode cX0_marketLetters 13 = .ok (.istore_n 3, 1) := by decide +kernel
theorem dX0_marketLetters_14 : decode cX0_marketLetters 14 = .ok (.iload_n 2, 1) := by decide +kernel
theorem dX0_marketLetters_15 : decode cX0_marketLetters 15 = .ok (.aload_n 0, 1) := by decide +kernel
theorem dX0_marketLetters_16 : decode cX0_marketLetters 16 = .ok (.getfield 19, 3) := by decide +kernel
theorem dX0_marketLetters_19 : decode cX0_marketLetters 19 = .ok (.iload_n 2, 1) := by decide +kernel
theorem dX0_marketLetters_20 : decode cX0_marketLetters 20 = .ok (.isub, 1) := by decide +kernel
theorem dX0_marketLetters_21 : decode cX0_marketLetters 21 = .ok (.bipush 8, 2) := by decide +kernel
theorem dX0_marketLetters_23 : decode cX0_marketLetters 23 = .ok (.invokestatic 120, 3) := by decide +kernel
theorem dX0_marketLetters_26 : decode cX0_marketLetters 26 = .ok (.iadd, 1) := by decide +kernel
theorem dX0_marketLetters_27 : decode cX0_marketLetters 27 = .ok (.istore 4, 2) := by decide +kernel
theorem dX0_marketLetters_29 : decode cX0_marketLetters 29 = .ok (.iload_n 3, 1) := by decide +kernel
theorem dX0_marketLetters_30 : decode cX0_marketLetters 30 = .ok (.iload_n 3, 1) := by decide +kernel
theorem dX0_marketLetters_31 : decode cX0_marketLetters 31 = .ok (.aload_n 0, 1) := by decide +kernel
theorem dX0_marketLetters_32 : decode cX0_marketLetters 32 = .ok (.getfield 19, 3) := by decide +kernel
theorem dX0_marketLetters_35 : decode cX0_marketLetters 35 = .ok (.isub, 1) := by decide +kernel
theorem dX0_marketLetters_36 : decode cX0_marketLetters 36 = .ok (.bipush 8, 2) := by decide +kernel
theorem dX0_marketLetters_38 : decode cX0_marketLetters 38 = .ok (.invokestatic 120, 3) := by decide +kernel
theorem dX0_marketLetters_41 : decode cX0_marketLetters 41 = .ok (.isub, 1) := by decide +kernel
theorem dX0_marketLetters_42 : decode cX0_marketLetters 42 = .ok (.istore 5, 2) := by decide +kernel
theorem dX0_marketLetters_44 : decode cX0_marketLetters 44 = .ok (.bipush 10, 2) := by decide +kernel
theorem dX0_marketLetters_46 : decode cX0_marketLetters 46 = .ok (.iload 4, 2) := by decide +kernel
theorem dX0_marketLetters_48 : decode cX0_marketLetters 48 = .ok (.invokestatic 108, 3) := by decide +kernel
theorem dX0_marketLetters_51 : decode cX0_marketLetters 51 = .ok (.imul, 1) := by decide +kernel
theorem dX0_marketLetters_52 : decode cX0_marketLetters 52 = .ok (.iload 5, 2) := by decide +kernel
theorem dX0_marketLetters_54 : decode cX0_marketLetters 54 = .ok (.invokestatic 108, 3) := by decide +kernel
theorem dX0_marketLetters_57 : decode cX0_marketLetters 57 = .ok (.iadd, 1) := by decide +kernel
theorem dX0_marketLetters_58 : decode cX0_marketLetters 58 = .ok (.ireturn, 1) := by decide +kernel
set_option maxRecDepth 20000 in
theorem ggX0_sundayLetters_X0_checkYear : GoodIn wsX0_sundayLetters wsX0_checkYear := goodIn_ca (goodIn_r _ [4, 5, 6] (by decide +kernel) (by decide +kernel)) (goodIn_sub (fun _ h => List.mem_cons_of_mem _ (List.mem_append_right _ h)) (by decide +kernel))
set_option maxRecDepth 20000 in
theorem gX0_sundayLetters_X0_checkYear : GoodIn wsX0_sundayLetters (va_wsS RX0 66 yX0_checkYear wsX0_checkYear) := goodIn_app (goodIn_of _ (by decide +kernel)) ggX0_sundayLetters_X0_checkYear
set_option maxRecDepth 20000 in
theorem ggX0_sundayLetters_X0_firstDayOf : GoodIn wsX0_sundayLetters wsX0_firstDayOf := goodIn_r _ [9] (by decide +kernel) (by decide +kernel)
set_option maxRecDepth 20000 in
theorem gX0_sundayLetters_X0_firstDayOf : GoodIn wsX0_sundayLetters (va_wsS RX0 36 yX0_firstDayOf wsX0_firstDayOf) := goodIn_app (goodIn_of _ (by decide +kernel)) ggX0_sundayLetters_X0_firstDayOf
set_option maxRecDepth 20000 in
theorem ggX0_sundayLetters_X0_lastDayOf : GoodIn wsX0_sundayLetters wsX0_lastDayOf := goodIn_r _ [12, 7, 8, 3, 9] (by decide +kernel) (by decide +kernel)
set_option maxRecDepth 20000 in
theorem gX0_sundayLetters_X0_lastDayOf : GoodIn wsX0_sundayLetters (va_wsS RX0 117 yX0_lastDayOf wsX0_lastDayOf) := goodIn_app (goodIn_of _ (by decide +kernel)) ggX0_sundayLetters_X0_lastDayOf
set_option maxRecDepth 20000 in
theorem ggX0_sundayLetters_J9_floorMod_7cf53 : GoodIn wsX0_sundayLetters wsJ9_floorMod_7cf53 := goodIn_r _ [16] (by decide +kernel) (by decide +kernel)
set_option maxRecDepth 20000 in
theorem gX0_sundayLetters_J9_floorMod_7cf53 : GoodIn wsX0_sundayLetters (va_wsS RX0 120 yJ9_floorMod_7cf53 wsJ9_floorMod_7cf53) := goodIn_app (goodIn_of _ (by decide +kernel)) ggX0_sundayLetters_J9_floorMod_7cf53
set_option maxRecDepth 20000 in
theorem ggX0_sundayLetters_X0_sevenLetterAt : GoodIn wsX0_sundayLetters wsX0_sevenLetterAt := goodIn_r _ [19, 20, 21, 3, 22, 23, 24, 25, 26, 27, 28] (by decide +kernel) (by decide +kernel)
set_option maxRecDepth 20000 in
theorem gX0_sundayLetters_X0_sevenLetterAt : GoodIn wsX0_sundayLetters (va_wsS RX0 111 yX0_sevenLetterAt wsX0_sevenLetterAt) := goodIn_app (goodIn_of _ (by decide +kernel)) ggX0_sundayLetters_X0_sevenLetterAt
theorem dX0_sundayLetters_0 : decode cX0_sundayLetters 0 = .ok (.iload_n 1, 1) := by decide +kernel
theorem dX0_sundayLetters_1 : decode cX0_sundayLetters 1 = .ok (.invokestatic 66, 3) := by decide +kernel
theorem dX0_sundayLetters_4 : decode cX0_sundayLetters 4 = .ok (.iload_n 1, 1) := by decide +kernel
theorem dX0_sundayLetters_5 : decode cX0_sundayLetters 5 = .ok (.invokestatic 36, 3) := by decide +kernel
theorem dX0_sundayLetters_8 : decode cX0_sundayLetters 8 = .ok (.istore_n 2, 1) := by decide +kernel
theorem dX0_sundayLetters_9 : decode cX0_sundayLetters 9 = .ok (.iload_n 1, 1) := by decide +kernel
theorem dX0_sundayLetters_10 : decode cX0_sundayLetters 10 = .ok (.invokestatic 117, 3) := by decide +kernel
theorem dX0_sundayLetters_13 : decode cX0_sundayLetters 13 = .ok (.istore_n 3, 1) := by decide +kernel
theorem dX0_sundayLetters_14 : decode cX0_sundayLetters 14 = .ok (.iload_n 2, 1) := by decide +kernel
theorem dX0_sundayLetters_15 : decode cX0_sundayLetters 15 = .ok (.iconst 1, 1) := by decide +kernel
theorem dX0_sundayLetters_16 : decode cX0_sundayLetters 16 = .ok (.iload_n 2, 1) := by decide +kernel
theorem dX0_sundayLetters_17 : decode cX0_sundayLetters 17 = .ok (.isub, 1) := by decide +kernel
theorem dX0_sundayLetters_18 : decode cX0_sundayLetters 18 = .ok (.bipush 7, 2) := by decide +kernel
theorem dX0_sundayLetters_20 : decode cX0_sundayLetters 20 = .ok (.invokestatic 120, 3) := by decide +kernel
theorem dX0_sundayLetters_23 : decode cX0_sundayLetters 23 = .ok (.iadd, 1) := by decide +kernel
theorem dX0_sundayLetters_24 : decode cX0_sundayLetters 24 = .ok (.istore 4, 2) := by decide +kernel
theorem dX0_sundayLetters_26 : decode cX0_sundayLetters 26 = .ok (.iload_n 3, 1) := by decide +kernel
theorem dX0_sundayLetters_27 : decode cX0_sundayLetters 27 = .ok (.iload_n 3, 1) := by decide +kernel
theorem dX0_sundayLetters_28 : decode cX0_sundayLetters 28 = .ok (.iconst 1, 1) := by decide +kernel
theorem dX0_sundayLetters_29 : decode cX0_sundayLetters 29 = .ok (.isub, 1) := by decide +kernel
theorem dX0_sundayLetters_30 : decode cX0_sundayLetters 30 = .ok (.bipush 7, 2) := by decide +kernel
theorem dX0_sundayLetters_32 : decode cX0_sundayLetters 32 = .ok (.invokestatic 120, 3) := by decide +kernel
theorem dX0_sundayLetters_35 : decode cX0_sundayLetters 35 = .ok (.isub, 1) := by decide +kernel
theorem dX0_sundayLetters_36 : decode cX0_sundayLetters 36 = .ok (.istore 5, 2) := by decide +kernel
theorem dX0_sundayLetters_38 : decode cX0_sundayLetters 38 = .ok (.bipush 10, 2) := by decide +kernel
theorem dX0_sundayLetters_40 : decode cX0_sundayLetters 40 = .ok (.iload 4, 2) := by decide +kernel
theorem dX0_sundayLetters_42 : decode cX0_sundayLetters 42 = .ok (.invokestatic 111, 3) := by decide +kernel
theorem dX0_sundayLetters_45 : decode cX0_sundayLetters 45 = .ok (.imul, 1) := by decide +kernel
theorem dX0_sundayLetters_46 : decode cX0_sundayLetters 46 = .ok (.iload 5, 2) := by decide +kernel
theorem dX0_sundayLetters_48 : decode cX0_sundayLetters 48 = .ok (.invokestatic 111, 3) := by decide +kernel
theorem dX0_sundayLetters_51 : decode cX0_sundayLetters 51 = .ok (.iadd, 1) := by decide +kernel
theorem dX0_sundayLetters_52 : decode cX0_sundayLetters 52 = .ok (.ireturn, 1) := by decide +kernel
set_option maxRecDepth 20000 in
theorem ggX0_setConsuls_X0_checkYear : GoodIn wsX0_setConsuls wsX0_checkYear := goodIn_ca (goodIn_r _ [10, 11, 12] (by decide +kernel) (by decide +kernel)) (goodIn_sub (fun _ h => List.mem_cons_of_mem _ (List.mem_append_right _ h)) (by decide +kernel))
set_option maxRecDepth 20000 in
theorem gX0_setConsuls_X0_checkYear : GoodIn wsX0_setConsuls (va_wsS RX0 66 yX0_checkYear wsX0_checkYear) := goodIn_app (goodIn_of _ (by decide +kernel)) ggX0_setConsuls_X0_checkYear
set_option maxRecDepth 20000 in
theorem ggX0_setConsuls_X0_isConsul : GoodIn wsX0_setConsuls wsX0_isConsul := goodIn_r _ [15] (by decide +kernel) (by decide +kernel)
set_option maxRecDepth 20000 in
theorem gX0_setConsuls_X0_isConsul : GoodIn wsX0_setConsuls (va_wsS RX0 125 yX0_isConsul wsX0_isConsul) := goodIn_app (goodIn_of _ (by decide +kernel)) ggX0_setConsuls_X0_isConsul
set_option maxRecDepth 20000 in
theorem ggX0_setConsuls_X0_slotOf : GoodIn wsX0_setConsuls wsX0_slotOf := goodIn_r _ [19, 5, 27, 28, 29, 30] (by decide +kernel) (by decide +kernel)
set_option maxRecDepth 20000 in
theorem gX0_setConsuls_X0_slotOf : GoodIn wsX0_setConsuls (wsV RX0 130 RX0 yX0_slotOf wsX0_slotOf) := goodIn_app (goodIn_of _ (by decide +kernel)) ggX0_setConsuls_X0_slotOf
set_option maxRecDepth 20000 in
theorem ggX0_setConsuls_X0_isSlot : GoodIn wsX0_setConsuls wsX0_isSlot := goodIn_r _ [22] (by decide +kernel) (by decide +kernel)
set_option maxRecDepth 20000 in
theorem gX0_setConsuls_X0_isSlot : GoodIn wsX0_setConsuls (va_wsS RX0 133 yX0_isSlot wsX0_isSlot) := goodIn_app (goodIn_of _ (by decide +kernel)) ggX0_setConsuls_X0_isSlot
set_option maxRecDepth 20000 in
theorem ggX0_setConsuls_X0_countConsulYears : GoodIn wsX0_setConsuls wsX0_countConsulYears := goodIn_r _ [26, 5, 27, 28, 29, 30] (by decide +kernel) (by decide +kernel)
set_option maxRecDepth 20000 in
theorem gX0_setConsuls_X0_countConsulYears : GoodIn wsX0_setConsuls (wsV RX0 138 RX0 yX0_countConsulYears wsX0_countConsulYears) := goodIn_app (goodIn_of _ (by decide +kernel)) ggX0_setConsuls_X0_countConsulYears
theorem dX0_setConsuls_0 : decode cX0_setConsuls 0 = .ok (.iload_n 1, 1) := by decide +kernel
theorem dX0_setConsuls_1 : decode cX0_setConsuls 1 = .ok (.invokestatic 66, 3) := by decide +kernel
theorem dX0_setConsuls_4 : decode cX0_setConsuls 4 = .ok (.iload_n 2, 1) := by decide +kernel
theorem dX0_setConsuls_5 : decode cX0_setConsuls 5 = .ok (.invokestatic 125, 3) := by decide +kernel
theorem dX0_setConsuls_8 : decode cX0_setConsuls 8 = .ok (.ifCond .eq 15, 3) := by decide +kernel
theorem dX0_setConsuls_11 : decode cX0_setConsuls 11 = .ok (.iload_n 3, 1) := by decide +kernel
theorem dX0_setConsuls_12 : decode cX0_setConsuls 12 = .ok (.invokestatic 125, 3) := by decide +kernel
theorem dX0_setConsuls_15 : decode cX0_setConsuls 15 = .ok (.ifCond .eq 8, 3) := by decide +kernel
theorem dX0_setConsuls_18 : decode cX0_setConsuls 18 = .ok (.iload_n 2, 1) := by decide +kernel
theorem dX0_setConsuls_19 : decode cX0_setConsuls 19 = .ok (.iload_n 3, 1) := by decide +kernel
theorem dX0_setConsuls_20 : decode cX0_setConsuls 20 = .ok (.if_icmp .ne 13, 3) := by decide +kernel
theorem dX0_setConsuls_23 : decode cX0_setConsuls 23 = .ok (.new 75, 3) := by decide +kernel
theorem dX0_setConsuls_26 : decode cX0_setConsuls 26 = .ok (.dup, 1) := by decide +kernel
theorem dX0_setConsuls_27 : decode cX0_setConsuls 27 = .ok (.ldc 128, 2) := by decide +kernel
theorem dX0_setConsuls_29 : decode cX0_setConsuls 29 = .ok (.invokespecial 79, 3) := by decide +kernel
theorem dX0_setConsuls_32 : decode cX0_setConsuls 32 = .ok (.athrow, 1) := by decide +kernel
theorem dX0_setConsuls_33 : decode cX0_setConsuls 33 = .ok (.aload_n 0, 1) := by decide +kernel
theorem dX0_setConsuls_34 : decode cX0_setConsuls 34 = .ok (.iload_n 1, 1) := by decide +kernel
theorem dX0_setConsuls_35 : decode cX0_setConsuls 35 = .ok (.invokevirtual 130, 3) := by decide +kernel
theorem dX0_setConsuls_38 : decode cX0_setConsuls 38 = .ok (.istore 4, 2) := by decide +kernel
theorem dX0_setConsuls_40 : decode cX0_setConsuls 40 = .ok (.iload 4, 2) := by decide +kernel
theorem dX0_setConsuls_42 : decode cX0_setConsuls 42 = .ok (.invokestatic 133, 3) := by decide +kernel
theorem dX0_setConsuls_45 : decode cX0_setConsuls 45 = .ok (.ifCond .ne 10, 3) := by decide +kernel
theorem dX0_setConsuls_48 : decode cX0_setConsuls 48 = .ok (.aload_n 0, 1) := by decide +kernel
theorem dX0_setConsuls_49 : decode cX0_setConsuls 49 = .ok (.iconst 0, 1) := by decide +kernel
theorem dX0_setConsuls_50 : decode cX0_setConsuls 50 = .ok (.invokevirtual 130, 3) := by decide +kernel
theorem dX0_setConsuls_53 : decode cX0_setConsuls 53 = .ok (.istore 4, 2) := by decide +kernel
theorem dX0_setConsuls_55 : decode cX0_setConsuls 55 = .ok (.iload 4, 2) := by decide +kernel
theorem dX0_setConsuls_57 : decode cX0_setConsuls 57 = .ok (.invokestatic 133, 3) := by decide +kernel
theorem dX0_setConsuls_60 : decode cX0_setConsuls 60 = .ok (.ifCond .ne 13, 3) := by decide +kernel
theorem dX0_setConsuls_63 : decode cX0_setConsuls 63 = .ok (.new 85, 3) := by decide +kernel
theorem dX0_setConsuls_66 : decode cX0_setConsuls 66 = .ok (.dup, 1) := by decide +kernel
theorem dX0_setConsuls_67 : decode cX0_setConsuls 67 = .ok (.ldc 136, 2) := by decide +kernel
theorem dX0_setConsuls_69 : decode cX0_setConsuls 69 = .ok (.invokespecial 89, 3) := by decide +kernel
theorem dX0_setConsuls_72 : decode cX0_setConsuls 72 = .ok (.athrow, 1) := by decide +kernel
theorem dX0_setConsuls_73 : decode cX0_setConsuls 73 = .ok (.aload_n 0, 1) := by decide +kernel
theorem dX0_setConsuls_74 : decode cX0_setConsuls 74 = .ok (.getfield 13, 3) := by decide +kernel
theorem dX0_setConsuls_77 : decode cX0_setConsuls 77 = .ok (.iload 4, 2) := by decide +kernel
theorem dX0_setConsuls_79 : decode cX0_setConsuls 79 = .ok (.iload_n 1, 1) := by decide +kernel
theorem dX0_setConsuls_80 : decode cX0_setConsuls 80 = .ok (.iastore, 1) := by decide +kernel
theorem dX0_setConsuls_81 : decode cX0_setConsuls 81 = .ok (.aload_n 0, 1) := by decide +kernel
theorem dX0_setConsuls_82 : decode cX0_setConsuls 82 = .ok (.getfield 16, 3) := by decide +kernel
theorem dX0_setConsuls_85 : decode cX0_setConsuls 85 = .ok (.iload 4, 2) := by decide +kernel
theorem dX0_setConsuls_87 : decode cX0_setConsuls 87 = .ok (.sipush 1000, 3) := by decide +kernel
theorem dX0_setConsuls_90 : decode cX0_setConsuls 90 = .ok (.iload_n 2, 1) := by decide +kernel
theorem dX0_setConsuls_91 : decode cX0_setConsuls 91 = .ok (.imul, 1) := by decide +kernel
theorem dX0_setConsuls_92 : decode cX0_setConsuls 92 = .ok (.iload_n 3, 1) := by decide +kernel
theorem dX0_setConsuls_93 : decode cX0_setConsuls 93 = .ok (.iadd, 1) := by decide +kernel
theorem dX0_setConsuls_94 : decode cX0_setConsuls 94 = .ok (.iastore, 1) := by decide +kernel
theorem dX0_setConsuls_95 : decode cX0_setConsuls 95 = .ok (.aload_n 0, 1) := by decide +kernel
theorem dX0_setConsuls_96 : decode cX0_setConsuls 96 = .ok (.invokevirtual 138, 3) := by decide +kernel
theorem dX0_setConsuls_99 : decode cX0_setConsuls 99 = .ok (.ireturn, 1) := by decide +kernel
set_option maxRecDepth 20000 in
theorem ggX0_strikeConsuls_X0_checkYear : GoodIn wsX0_strikeConsuls wsX0_checkYear := goodIn_ca (goodIn_r _ [7, 8, 9] (by decide +kernel) (by decide +kernel)) (goodIn_sub (fun _ h => List.mem_cons_of_mem _ (List.mem_append_right _ h)) (by decide +kernel))
set_option maxRecDepth 20000 in
theorem gX0_strikeConsuls_X0_checkYear : GoodIn wsX0_strikeConsuls (va_wsS RX0 66 yX0_checkYear wsX0_checkYear) := goodIn_app (goodIn_of _ (by decide +kernel)) ggX0_strikeConsuls_X0_checkYear
set_option maxRecDepth 20000 in
theorem ggX0_strikeConsuls_X0_slotOf : GoodIn wsX0_strikeConsuls wsX0_slotOf := goodIn_r _ [13, 3, 21, 22, 23, 24] (by decide +kernel) (by decide +kernel)
set_option maxRecDepth 20000 in
theorem gX0_strikeConsuls_X0_slotOf : GoodIn wsX0_strikeConsuls (wsV RX0 130 RX0 yX0_slotOf wsX0_slotOf) := goodIn_app (goodIn_of _ (by decide +kernel)) ggX0_strikeConsuls_X0_slotOf
set_option maxRecDepth 20000 in
theorem ggX0_strikeConsuls_X0_isSlot : GoodIn wsX0_strikeConsuls wsX0_isSlot := goodIn_r _ [16] (by decide +kernel) (by decide +kernel)
set_option maxRecDepth 20000 in
theorem gX0_strikeConsuls_X0_isSlot : GoodIn wsX0_strikeConsuls (va_wsS RX0 133 yX0_isSlot wsX0_isSlot) := goodIn_app (goodIn_of _ (by decide +kernel)) ggX0_strikeConsuls_X0_isSlot
set_option maxRecDepth 20000 in
theorem ggX0_strikeConsuls_X0_countConsulYears : GoodIn wsX0_strikeConsuls wsX0_countConsulYears := goodIn_r _ [20, 3, 21, 22, 23, 24] (by decide +kernel) (by decide +kernel)
set_option maxRecDepth 20000 in
theorem gX0_strikeConsuls_X0_countConsulYears : GoodIn wsX0_strikeConsuls (wsV RX0 138 RX0 yX0_countConsulYears wsX0_countConsulYears) := goodIn_app (goodIn_of _ (by decide +kernel)) ggX0_strikeConsuls_X0_countConsulYears
theorem dX0_strikeConsuls_0 : decode cX0_strikeConsuls 0 = .ok (.iload_n 1, 1) := by decide +kernel
theorem dX0_strikeConsuls_1 : decode cX0_strikeConsuls 1 = .ok (.invokestatic 66, 3) := by decide +kernel
theorem dX0_strikeConsuls_4 : decode cX0_strikeConsuls 4 = .ok (.aload_n 0, 1) := by decide +kernel
theorem dX0_strikeConsuls_5 : decode cX0_strikeConsuls 5 = .ok (.iload_n 1, 1) := by decide +kernel
theorem dX0_strikeConsuls_6 : decode cX0_strikeConsuls 6 = .ok (.invokevirtual 130, 3) := by decide +kernel
theorem dX0_strikeConsuls_9 : decode cX0_strikeConsuls 9 = .ok (.istore_n 2, 1) := by decide +kernel
theorem dX0_strikeConsuls_10 : decode cX0_strikeConsuls 10 = .ok (.iload_n 2, 1) := by decide +kernel
theorem dX0_strikeConsuls_11 : decode cX0_strikeConsuls 11 = .ok (.invokestatic 133, 3) := by decide +kernel
theorem dX0_strikeConsuls_14 : decode cX0_strikeConsuls 14 = .ok (.ifCond .ne 13, 3) := by decide +kernel
theorem dX0_strikeConsuls_17 : decode cX0_strikeConsuls 17 = .ok (.new 85, 3) := by decide +kernel
theorem dX0_strikeConsuls_20 : decode cX0_strikeConsuls 20 = .ok (.dup, 1) := by decide +kernel
theorem dX0_strikeConsuls_21 : decode cX0_strikeConsuls 21 = .ok (.ldc 142, 2) := by decide +kernel
theorem dX0_strikeConsuls_23 : decode cX0_strikeConsuls 23 = .ok (.invokespecial 89, 3) := by decide +kernel
theorem dX0_strikeConsuls_26 : decode cX0_strikeConsuls 26 = .ok (.athrow, 1) := by decide +kernel
theorem dX0_strikeConsuls_27 : decode cX0_strikeConsuls 27 = .ok (.aload_n 0, 1) := by decide +kernel
theorem dX0_strikeConsuls_28 : decode cX0_strikeConsuls 28 = .ok (.getfield 13, 3) := by decide +kernel
theorem dX0_strikeConsuls_31 : decode cX0_strikeConsuls 31 = .ok (.iload_n 2, 1) := by decide +kernel
theorem dX0_strikeConsuls_32 : decode cX0_strikeConsuls 32 = .ok (.iconst 0, 1) := by decide +kernel
theorem dX0_strikeConsuls_33 : decode cX0_strikeConsuls 33 = .ok (.iastore, 1) := by decide +kernel
theorem dX0_strikeConsuls_34 : decode cX0_strikeConsuls 34 = .ok (.aload_n 0, 1) := by decide +kernel
theorem dX0_strikeConsuls_35 : decode cX0_strikeConsuls 35 = .ok (.invokevirtual 138, 3) := by decide +kernel
theorem dX0_strikeConsuls_38 : decode cX0_strikeConsuls 38 = .ok (.ireturn, 1) := by decide +kernel
set_option maxRecDepth 20000 in
theorem ggX0_consulsOf_X0_checkYear : GoodIn wsX0_consulsOf wsX0_checkYear := goodIn_ca (goodIn_r _ [5, 6, 7] (by decide +kernel) (by decide +kernel)) (goodIn_sub (fun _ h => List.mem_cons_of_mem _ (List.mem_append_right _ h)) (by decide +kernel))
set_option maxRecDepth 20000 in
theorem gX0_consulsOf_X0_checkYear : GoodIn wsX0_consulsOf (va_wsS RX0 66 yX0_checkYear wsX0_checkYear) := goodIn_app (goodIn_of _ (by decide +kernel)) ggX0_consulsOf_X0_checkYear
set_option maxRecDepth 20000 in
theorem ggX0_consulsOf_X0_slotOf : GoodIn wsX0_consulsOf wsX0_slotOf := goodIn_r _ [11, 12, 16, 17, 18, 19] (by decide +kernel) (by decide +kernel)
set_option maxRecDepth 20000 in
theorem gX0_consulsOf_X0_slotOf : GoodIn wsX0_consulsOf (wsV RX0 130 RX0 yX0_slotOf wsX0_slotOf) := goodIn_app (goodIn_of _ (by decide +kernel)) ggX0_consulsOf_X0_slotOf
set_option maxRecDepth 20000 in
theorem ggX0_consulsOf_X0_isSlot : GoodIn wsX0_consulsOf wsX0_isSlot := goodIn_r _ [15] (by decide +kernel) (by decide +kernel)
set_option maxRecDepth 20000 in
theorem gX0_consulsOf_X0_isSlot : GoodIn wsX0_consulsOf (va_wsS RX0 133 yX0_isSlot wsX0_isSlot) := goodIn_app (goodIn_of _ (by decide +kernel)) ggX0_consulsOf_X0_isSlot
theorem dX0_consulsOf_0 : decode cX0_consulsOf 0 = .ok (.iload_n 1, 1) := by decide +kernel
theorem dX0_consulsOf_1 : decode cX0_consulsOf 1 = .ok (.invokestatic 66, 3) := by decide +kernel
theorem dX0_consulsOf_4 : decode cX0_consulsOf 4 = .ok (.aload_n 0, 1) := by decide +kernel
theorem dX0_consulsOf_5 : decode cX0_consulsOf 5 = .ok (.iload_n 1, 1) := by decide +kernel
theorem dX0_consulsOf_6 : decode cX0_consulsOf 6 = .ok (.invokevirtual 130, 3) := by decide +kernel
theorem dX0_consulsOf_9 : decode cX0_consulsOf 9 = .ok (.istore_n 2, 1) := by decide +kernel
theorem dX0_consulsOf_10 : decode cX0_consulsOf 10 = .ok (.iload_n 2, 1) := by decide +kernel
theorem dX0_consulsOf_11 : decode cX0_consulsOf 11 = .ok (.invokestatic 133, 3) := by decide +kernel
theorem dX0_consulsOf_14 : decode cX0_consulsOf 14 = .ok (.ifCond .eq 12, 3) := by decide +kernel
theorem dX0_consulsOf_17 : decode cX0_consulsOf 17 = .ok (.aload_n 0, 1) := by decide +kernel
theorem dX0_consulsOf_18 : decode cX0_consulsOf 18 = .ok (.getfield 16, 3) := by decide +kernel
theorem dX0_consulsOf_21 : decode cX0_consulsOf 21 = .ok (.iload_n 2, 1) := by decide +kernel
theorem dX0_consulsOf_22 : decode cX0_consulsOf 22 = .ok (.iaload, 1) := by decide +kernel
theorem dX0_consulsOf_23 : decode cX0_consulsOf 23 = .ok (.goto 4, 3) := by decide +kernel
theorem dX0_consulsOf_26 : decode cX0_consulsOf 26 = .ok (.iconst (-1), 1) := by decide +kernel
theorem dX0_consulsOf_27 : decode cX0_consulsOf 27 = .ok (.ireturn, 1) := by decide +kernel
set_option maxRecDepth 20000 in
theorem ggX0_afterConsuls_X0_checkYear : GoodIn wsX0_afterConsuls wsX0_checkYear := goodIn_ca (goodIn_r _ [5, 6, 7] (by decide +kernel) (by decide +kernel)) (goodIn_sub (fun _ h => List.mem_cons_of_mem _ (List.mem_append_right _ h)) (by decide +kernel))
set_option maxRecDepth 20000 in
theorem gX0_afterConsuls_X0_checkYear : GoodIn wsX0_afterConsuls (va_wsS RX0 66 yX0_checkYear wsX0_checkYear) := goodIn_app (goodIn_of _ (by decide +kernel)) ggX0_afterConsuls_X0_checkYear
theorem dX0_afterConsuls_0 : decode cX0_afterConsuls 0 = .ok (.iload_n 1, 1) := by decide +kernel
theorem dX0_afterConsuls_1 : decode cX0_afterConsuls 1 = .ok (.invokestatic 66, 3) := by decide +kernel
theorem dX0_afterConsuls_4 : decode cX0_afterConsuls 4 = .ok (.iconst 0, 1) := by decide +kernel
theorem dX0_afterConsuls_5 : decode cX0_afterConsuls 5 = .ok (.istore_n 2, 1) := by decide +kernel
theorem dX0_afterConsuls_6 : decode cX0_afterConsuls 6 = .ok (.iconst 0, 1) := by decide +kernel
theorem dX0_afterConsuls_7 : decode cX0_afterConsuls 7 = .ok (.istore_n 3, 1) := by decide +kernel
theorem dX0_afterConsuls_8 : decode cX0_afterConsuls 8 = .ok (.iload_n 3, 1) := by decide +kernel
theorem dX0_afterConsuls_9 : decode cX0_afterConsuls 9 = .ok (.bipush 60, 2) := by decide +kernel
theorem dX0_afterConsuls_11 : decode cX0_afterConsuls 11 = .ok (.if_icmp .ge 32, 3) := by decide +kernel
theorem dX0_afterConsuls_14 : decode cX0_afterConsuls 14 = .ok (.aload_n 0, 1) := by decide +kernel
theorem dX0_afterConsuls_15 : decode cX0_afterConsuls 15 = .ok (.getfield 13, 3) := by decide +kernel
theorem dX0_afterConsuls_18 : decode cX0_afterConsuls 18 = .ok (.iload_n 3, 1) := by decide +kernel
theorem dX0_afterConsuls_19 : decode cX0_afterConsuls 19 = .ok (.iaload, 1) := by decide +kernel
theorem dX0_afterConsuls_20 : decode cX0_afterConsuls 20 = .ok (.istore 4, 2) := by decide +kernel
theorem dX0_afterConsuls_22 : decode cX0_afterConsuls 22 = .ok (.iload 4, 2) := by decide +kernel
theorem dX0_afterConsuls_24 : decode cX0_afterConsuls 24 = .ok (.iload_n 1, 1) := by decide +kernel
theorem dX0_afterConsuls_25 : decode cX0_afterConsuls 25 = .ok (.if_icmp .gt 12, 3) := by decide +kernel
theorem dX0_afterConsuls_28 : decode cX0_afterConsuls 28 = .ok (.iload 4, 2) := by decide +kernel
theorem dX0_afterConsuls_30 : decode cX0_afterConsuls 30 = .ok (.iload_n 2, 1) := by decide +kernel
theorem dX0_afterConsuls_31 : decode cX0_afterConsuls 31 = .ok (.if_icmp .le 6, 3) := by decide +kernel
theorem dX0_afterConsuls_34 : decode cX0_afterConsuls 34 = .ok (.iload 4, 2) := by decide +kernel
theorem dX0_afterConsuls_36 : decode cX0_afterConsuls 36 = .ok (.istore_n 2, 1) := by decide +kernel
theorem dX0_afterConsuls_37 : decode cX0_afterConsuls 37 = .ok (.iinc 3 1, 3) := by decide +kernel
theorem dX0_afterConsuls_40 : decode cX0_afterConsuls 40 = .ok (.goto (-32), 3) := by decide +kernel
theorem dX0_afterConsuls_43 : decode cX0_afterConsuls 43 = .ok (.iload_n 2, 1) := by decide +kernel
theorem dX0_afterConsuls_44 : decode cX0_afterConsuls 44 = .ok (.ifCond .ne 7, 3) := by decide +kernel
theorem dX0_afterConsuls_47 : decode cX0_afterConsuls 47 = .ok (.iconst (-1), 1) := by decide +kernel
theorem dX0_afterConsuls_48 : decode cX0_afterConsuls 48 = .ok (.goto 6, 3) := by decide +kernel
theorem dX0_afterConsuls_51 : decode cX0_afterConsuls 51 = .ok (.iload_n 1, 1) := by decide +kernel
theorem dX0_afterConsuls_52 : decode cX0_afterConsuls 52 = .ok (.iload_n 2, 1) := by decide +kernel
theorem dX0_afterConsuls_53 : decode cX0_afterConsuls 53 = .ok (.isub, 1) := by decide +kernel
theorem dX0_afterConsuls_54 : decode cX0_afterConsuls 54 = .ok (.ireturn, 1) := by decide +kernel
set_option maxRecDepth 20000 in
theorem ggX0_yearOfConsuls_X0_nextYearOfPair : GoodIn wsX0_yearOfConsuls wsX0_nextYearOfPair := goodIn_r _ [7, 8, 9, 10, 11, 6, 12, 13, 14, 15, 16] (by decide +kernel) (by decide +kernel)
set_option maxRecDepth 20000 in
theorem gX0_yearOfConsuls_X0_nextYearOfPair : GoodIn wsX0_yearOfConsuls (wsV RX0 146 RX0 yX0_nextYearOfPair wsX0_nextYearOfPair) := goodIn_app (goodIn_of _ (by decide +kernel)) ggX0_yearOfConsuls_X0_nextYearOfPair
theorem dX0_yearOfConsuls_0 : decode cX0_yearOfConsuls 0 = .ok (.iload_n 3, 1) := by decide +kernel
theorem dX0_yearOfConsuls_1 : decode cX0_yearOfConsuls 1 = .ok (.iconst 1, 1) := by decide +kernel
theorem dX0_yearOfConsuls_2 : decode cX0_yearOfConsuls 2 = .ok (.if_icmp .ge 13, 3) := by decide +kernel
theorem dX0_yearOfConsuls_5 : decode cX0_yearOfConsuls 5 = .ok (.new 75, 3) := by decide +kernel
theorem dX0_yearOfConsuls_8 : decode cX0_yearOfConsuls 8 = .ok (.dup, 1) := by decide +kernel
theorem dX0_yearOfConsuls_9 : decode cX0_yearOfConsuls 9 = .ok (.ldc 144, 2) := by decide +kernel
theorem dX0_yearOfConsuls_11 : decode cX0_yearOfConsuls 11 = .ok (.invokespecial 79, 3) := by decide +kernel
theorem dX0_yearOfConsuls_14 : decode cX0_yearOfConsuls 14 = .ok (.athrow, 1) := by decide +kernel
theorem dX0_yearOfConsuls_15 : decode cX0_yearOfConsuls 15 = .ok (.iload_n 3, 1) := by decide +kernel
theorem dX0_yearOfConsuls_16 : decode cX0_yearOfConsuls 16 = .ok (.bipush 60, 2) := by decide +kernel
theorem dX0_yearOfConsuls_18 : decode cX0_yearOfConsuls 18 = .ok (.if_icmp .le 5, 3) := by decide +kernel
theorem dX0_yearOfConsuls_21 : decode cX0_yearOfConsuls 21 = .ok (.iconst (-1), 1) := by decide +kernel
theorem dX0_yearOfConsuls_22 : decode cX0_yearOfConsuls 22 = .ok (.ireturn, 1) := by decide +kernel
theorem dX0_yearOfConsuls_23 : decode cX0_yearOfConsuls 23 = .ok (.aload_n 0, 1) := by decide +kernel
theorem dX0_yearOfConsuls_24 : decode cX0_yearOfConsuls 24 = .ok (.iload_n 1, 1) := by decide +kernel
theorem dX0_yearOfConsuls_25 : decode cX0_yearOfConsuls 25 = .ok (.iload_n 2, 1) := by decide +kernel
theorem dX0_yearOfConsuls_26 : decode cX0_yearOfConsuls 26 = .ok (.iconst 0, 1) := by decide +kernel
theorem dX0_yearOfConsuls_27 : decode cX0_yearOfConsuls 27 = .ok (.invokevirtual 146, 3) := by decide +kernel
theorem dX0_yearOfConsuls_30 : decode cX0_yearOfConsuls 30 = .ok (.istore 4, 2) := by decide +kernel
theorem dX0_yearOfConsuls_32 : decode cX0_yearOfConsuls 32 = .ok (.iconst 1, 1) := by decide +kernel
theorem dX0_yearOfConsuls_33 : decode cX0_yearOfConsuls 33 = .ok (.istore 5, 2) := by decide +kernel
theorem dX0_yearOfConsuls_35 : decode cX0_yearOfConsuls 35 = .ok (.iload 5, 2) := by decide +kernel
theorem dX0_yearOfConsuls_37 : decode cX0_yearOfConsuls 37 = .ok (.iload_n 3, 1) := by decide +kernel
theorem dX0_yearOfConsuls_38 : decode cX0_yearOfConsuls 38 = .ok (.if_icmp .ge 25, 3) := by decide +kernel
theorem dX0_yearOfConsuls_41 : decode cX0_yearOfConsuls 41 = .ok (.iload 4, 2) := by decide +kernel
theorem dX0_yearOfConsuls_43 : decode cX0_yearOfConsuls 43 = .ok (.iconst (-1), 1) := by decide +kernel
theorem dX0_yearOfConsuls_44 : decode cX0_yearOfConsuls 44 = .ok (.if_icmp .eq 19, 3) := by decide +kernel
theorem dX0_yearOfConsuls_47 : decode cX0_yearOfConsuls 47 = .ok (.aload_n 0, 1) := by decide +kernel
theorem dX0_yearOfConsuls_48 : decode cX0_yearOfConsuls 48 = .ok (.iload_n 1, 1) := by decide +kernel
theorem dX0_yearOfConsuls_49 : decode cX0_yearOfConsuls 49 = .ok (.iload_n 2, 1) := by decide +kernel
theorem dX0_yearOfConsuls_50 : decode cX0_yearOfConsuls 50 = .ok (.iload 4, 2) := by decide +kernel
theorem dX0_yearOfConsuls_52 : decode cX0_yearOfConsuls 52 = .ok (.invokevirtual 146, 3) := by decide +kernel
theorem dX0_yearOfConsuls_55 : decode cX0_yearOfConsuls 55 = .ok (.istore 4, 2) := by decide +kernel
theorem dX0_yearOfConsuls_57 : decode cX0_yearOfConsuls 57 = .ok (.iinc 5 1, 3) := by decide +kernel
theorem dX0_yearOfConsuls_60 : decode cX0_yearOfConsuls 60 = .ok (.goto (-25), 3) := by decide +kernel
theorem dX0_yearOfConsuls_63 : decode cX0_yearOfConsuls 63 = .ok (.iload 4, 2) := by decide +kernel
theorem dX0_yearOfConsuls_65 : decode cX0_yearOfConsuls 65 = .ok (.ireturn, 1) := by decide +kernel
set_option maxRecDepth 20000 in
theorem ggX0_setCharacter_X0_isPlace : GoodIn wsX0_setCharacter wsX0_isPlace := goodIn_r _ [8] (by decide +kernel) (by decide +kernel)
set_option maxRecDepth 20000 in
theorem gX0_setCharacter_X0_isPlace : GoodIn wsX0_setCharacter (va_wsS RX0 150 yX0_isPlace wsX0_isPlace) := goodIn_app (goodIn_of _ (by decide +kernel)) ggX0_setCharacter_X0_isPlace
set_option maxRecDepth 20000 in
theorem ggX0_setCharacter_X0_readCharacter : GoodIn wsX0_setCharacter wsX0_readCharacter := goodIn_r _ [12, 13, 5, 6, 7, 8, 18, 19, 20, 21] (by decide +kernel) (by decide +kernel)
set_option maxRecDepth 20000 in
theorem gX0_setCharacter_X0_readCharacter : GoodIn wsX0_setCharacter (wsV RX0 160 RX0 yX0_readCharacter wsX0_readCharacter) := goodIn_app (goodIn_of _ (by decide +kernel)) ggX0_setCharacter_X0_readCharacter
set_option maxRecDepth 20000 in
theorem ggX0_setCharacter_X0_writeCharacter : GoodIn wsX0_setCharacter wsX0_writeCharacter := goodIn_r _ [17, 13, 5, 6, 7, 8, 18, 19, 20, 21] (by decide +kernel) (by decide +kernel)
set_option maxRecDepth 20000 in
theorem gX0_setCharacter_X0_writeCharacter : GoodIn wsX0_setCharacter (wsV RX0 27 RX0 yX0_writeCharacter wsX0_writeCharacter) := goodIn_app (goodIn_of _ (by decide +kernel)) ggX0_setCharacter_X0_writeCharacter
theorem dX0_setCharacter_0 : decode cX0_setCharacter 0 = .ok (.iload_n 1, 1) := by decide +kernel
theorem dX0_setCharacter_1 : decode cX0_setCharacter 1 = .ok (.invokestatic 150, 3) := by decide +kernel
theorem dX0_setCharacter_4 : decode cX0_setCharacter 4 = .ok (.ifCond .ne 13, 3) := by decide +kernel
theorem dX0_setCharacter_7 : decode cX0_setCharacter 7 = .ok (.new 153, 3) := by decide +kernel
theorem dX0_setCharacter_10 : decode cX0_setCharacter 10 = .ok (.dup, 1) := by decide +kernel
theorem dX0_setCharacter_11 : decode cX0_setCharacter 11 = .ok (.ldc 155, 2) := by decide +kernel
theorem dX0_setCharacter_13 : decode cX0_setCharacter 13 = .ok (.invokespecial 157, 3) := by decide +kernel
theorem dX0_setCharacter_16 : decode cX0_setCharacter 16 = .ok (.athrow, 1) := by decide +kernel
theorem dX0_setCharacter_17 : decode cX0_setCharacter 17 = .ok (.iload_n 2, 1) := by decide +kernel
theorem dX0_setCharacter_18 : decode cX0_setCharacter 18 = .ok (.ifCond .lt 8, 3) := by decide +kernel
theorem dX0_setCharacter_21 : decode cX0_setCharacter 21 = .ok (.iload_n 2, 1) := by decide +kernel
theorem dX0_setCharacter_22 : decode cX0_setCharacter 22 = .ok (.iconst 3, 1) := by decide +kernel
theorem dX0_setCharacter_23 : decode cX0_setCharacter 23 = .ok (.if_icmp .le 13, 3) := by decide +kernel
theorem dX0_setCharacter_26 : decode cX0_setCharacter 26 = .ok (.new 75, 3) := by decide +kernel
theorem dX0_setCharacter_29 : decode cX0_setCharacter 29 = .ok (.dup, 1) := by decide +kernel
theorem dX0_setCharacter_30 : decode cX0_setCharacter 30 = .ok (.ldc 158, 2) := by decide +kernel
theorem dX0_setCharacter_32 : decode cX0_setCharacter 32 = .ok (.invokespecial 79, 3) := by decide +kernel
theorem dX0_setCharacter_35 : decode cX0_setCharacter 35 = .ok (.athrow, 1) := by decide +kernel
theorem dX0_setCharacter_36 : decode cX0_setCharacter 36 = .ok (.aload_n 0, 1) := by decide +kernel
theorem dX0_setCharacter_37 : decode cX0_setCharacter 37 = .ok (.iload_n 1, 1) := by decide +kernel
theorem dX0_setCharacter_38 : decode cX0_setCharacter 38 = .ok (.invokevirtual 160, 3) := by decide +kernel
theorem dX0_setCharacter_41 : decode cX0_setCharacter 41 = .ok (.istore_n 3, 1) := by decide +kernel
theorem dX0_setCharacter_42 : decode cX0_setCharacter 42 = .ok (.aload_n 0, 1) := by decide +kernel
theorem dX0_setCharacter_43 : decode cX0_setCharacter 43 = .ok (.iload_n 1, 1) := by decide +kernel
theorem dX0_setCharacter_44 : decode cX0_setCharacter 44 = .ok (.iload_n 2, 1) := by decide +kernel
theorem dX0_setCharacter_45 : decode cX0_setCharacter 45 = .ok (.invokevirtual 27, 3) := by decide +kernel
theorem dX0_setCharacter_48 : decode cX0_setCharacter 48 = .ok (.iload_n 3, 1) := by decide +kernel
theorem dX0_setCharacter_49 : decode cX0_setCharacter 49 = .ok (.ireturn, 1) := by decide +kernel
set_option maxRecDepth 20000 in
theorem ggX0_characterOf_X0_checkNumber : GoodIn wsX0_characterOf wsX0_checkNumber := goodIn_ca (goodIn_r _ [4, 5, 6, 7] (by decide +kernel) (by decide +kernel)) (goodIn_sub (fun _ h => List.mem_cons_of_mem _ (List.mem_append_right _ h)) (by decide +kernel))
set_option maxRecDepth 20000 in
theorem gX0_characterOf_X0_checkNumber : GoodIn wsX0_characterOf (va_wsS RX0 46 yX0_checkNumber wsX0_checkNumber) := goodIn_app (goodIn_of _ (by decide +kernel)) ggX0_characterOf_X0_checkNumber
set_option maxRecDepth 20000 in
theorem ggX0_characterOf_X0_placeAt : GoodIn wsX0_characterOf wsX0_placeAt := goodIn_r _ [10, 11, 12, 3, 13, 14, 15, 16] (by decide +kernel) (by decide +kernel)
set_option maxRecDepth 20000 in
theorem gX0_characterOf_X0_placeAt : GoodIn wsX0_characterOf (va_wsS RX0 53 yX0_placeAt wsX0_placeAt) := goodIn_app (goodIn_of _ (by decide +kernel)) ggX0_characterOf_X0_placeAt
set_option maxRecDepth 20000 in
theorem ggX0_characterOf_X0_readCharacter : GoodIn wsX0_characterOf wsX0_readCharacter := goodIn_r _ [20, 21, 22, 23, 3, 24, 25, 26, 27, 28] (by decide +kernel) (by decide +kernel)
set_option maxRecDepth 20000 in
theorem gX0_characterOf_X0_readCharacter : GoodIn wsX0_characterOf (wsV RX0 160 RX0 yX0_readCharacter wsX0_readCharacter) := goodIn_app (goodIn_of _ (by decide +kernel)) ggX0_characterOf_X0_readCharacter
theorem dX0_characterOf_0 : decode cX0_characterOf 0 = .ok (.iload_n 1, 1) := by decide +kernel
theorem dX0_characterOf_1 : decode cX0_characterOf 1 = .ok (.invokestatic 46, 3) := by decide +kernel
theorem dX0_characterOf_4 : decode cX0_characterOf 4 = .ok (.aload_n 0, 1) := by decide +kernel
theorem dX0_characterOf_5 : decode cX0_characterOf 5 = .ok (.iload_n 1, 1) := by decide +kernel
theorem dX0_characterOf_6 : decode cX0_characterOf 6 = .ok (.invokestatic 53, 3) := by decide +kernel
theorem dX0_characterOf_9 : decode cX0_characterOf 9 = .ok (.invokevirtual 160, 3) := by decide +kernel
theorem dX0_characterOf_12 : decode cX0_characterOf 12 = .ok (.ireturn, 1) := by decide +kernel
set_option maxRecDepth 20000 in
theorem ggX0_canVote_X0_checkNumber : GoodIn wsX0_canVote wsX0_checkNumber := goodIn_ca (goodIn_r _ [4, 5, 6, 7] (by decide +kernel) (by decide +kernel)) (goodIn_sub (fun _ h => List.mem_cons_of_mem _ (List.mem_append_right _ h)) (by decide +kernel))
set_option maxRecDepth 20000 in
theorem gX0_canVote_X0_checkNumber : GoodIn wsX0_canVote (va_wsS RX0 46 yX0_checkNumber wsX0_checkNumber) := goodIn_app (goodIn_of _ (by decide +kernel)) ggX0_canVote_X0_checkNumber
set_option maxRecDepth 20000 in
theorem ggX0_canVote_X0_isVotingDay : GoodIn wsX0_canVote wsX0_isVotingDay := goodIn_r _ [11, 12, 13, 3, 14, 15, 16, 17, 18, 19, 20, 21, 22, 23, 24, 25, 26, 27, 28, 29, 30, 31, 32, 33, 34, 35, 36, 37] (by decide +kernel) (by decide +kernel)
set_option maxRecDepth 20000 in
theorem gX0_canVote_X0_isVotingDay : GoodIn wsX0_canVote (wsV RX0 163 RX0 yX0_isVotingDay wsX0_isVotingDay) := goodIn_app (goodIn_of _ (by decide +kernel)) ggX0_canVote_X0_isVotingDay
theorem dX0_canVote_0 : decode cX0_canVote 0 = .ok (.iload_n 1, 1) := by decide +kernel
theorem dX0_canVote_1 : decode cX0_canVote 1 = .ok (.invokestatic 46, 3) := by decide +kernel
theorem dX0_canVote_4 : decode cX0_canVote 4 = .ok (.aload_n 0, 1) := by decide +kernel
theorem dX0_canVote_5 : decode cX0_canVote 5 = .ok (.iload_n 1, 1) := by decide +kernel
theorem dX0_canVote_6 : decode cX0_canVote 6 = .ok (.invokevirtual 163, 3) := by decide +kernel
theorem dX0_canVote_9 : decode cX0_canVote 9 = .ok (.ireturn, 1) := by decide +kernel
set_option maxRecDepth 20000 in
theorem ggX0_nextCourt_X0_checkNumber : GoodIn wsX0_nextCourt wsX0_checkNumber := goodIn_ca (goodIn_r _ [9, 10, 11, 1] (by decide +kernel) (by decide +kernel)) (goodIn_sub (fun _ h => List.mem_cons_of_mem _ (List.mem_append_right _ h)) (by decide +kernel))
set_option maxRecDepth 20000 in
theorem gX0_nextCourt_X0_checkNumber : GoodIn wsX0_nextCourt (va_wsS RX0 46 yX0_checkNumber wsX0_checkNumber) := goodIn_app (goodIn_of _ (by decide +kernel)) ggX0_nextCourt_X0_checkNumber
set_option maxRecDepth 20000 in
theorem ggX0_nextCourt_X0_placeAt : GoodIn wsX0_nextCourt wsX0_placeAt := goodIn_r _ [14, 15, 16, 8, 17, 18, 19, 20] (by decide +kernel) (by decide +kernel)
set_option maxRecDepth 20000 in
theorem gX0_nextCourt_X0_placeAt : GoodIn wsX0_nextCourt (va_wsS RX0 53 yX0_placeAt wsX0_placeAt) := goodIn_app (goodIn_of _ (by decide +kernel)) ggX0_nextCourt_X0_placeAt
set_option maxRecDepth 20000 in
theorem ggX0_nextCourt_X0_readCharacter : GoodIn wsX0_nextCourt wsX0_readCharacter := goodIn_r _ [24, 25, 26, 27, 8, 28, 29, 30, 31, 32] (by decide +kernel) (by decide +kernel)
set_option maxRecDepth 20000 in
theorem gX0_nextCourt_X0_readCharacter : GoodIn wsX0_nextCourt (wsV RX0 160 RX0 yX0_readCharacter wsX0_readCharacter) := goodIn_app (goodIn_of _ (by decide +kernel)) ggX0_nextCourt_X0_readCharacter
theorem dX0_nextCourt_0 : decode cX0_nextCourt 0 = .ok (.iload_n 1, 1) := by decide +kernel
theorem dX0_nextCourt_1 : decode cX0_nextCourt 1 = .ok (.invokestatic 46, 3) := by decide +kernel
theorem dX0_nextCourt_4 : decode cX0_nextCourt 4 = .ok (.iload_n 1, 1) := by decide +kernel
theorem dX0_nextCourt_5 : decode cX0_nextCourt 5 = .ok (.sipush 365, 3) := by decide +kernel
theorem dX0_nextCourt_8 : decode cX0_nextCourt 8 = .ok (.iadd, 1) := by decide +kernel
theorem dX0_nextCourt_9 : decode cX0_nextCourt 9 = .ok (.iconst 1, 1) := by decide +kernel
theorem dX0_nextCourt_10 : decode cX0_nextCourt 10 = .ok (.iadd, 1) := by decide +kernel
theorem dX0_nextCourt_11 : decode cX0_nextCourt 11 = .ok (.ldc 31, 2) := by decide +kernel
theorem dX0_nextCourt_13 : decode cX0_nextCourt 13 = .ok (.invokestatic 166, 3) := by decide +kernel
theorem dX0_nextCourt_16 : decode cX0_nextCourt 16 = .ok (.istore_n 2, 1) := by decide +kernel
theorem dX0_nextCourt_17 : decode cX0_nextCourt 17 = .ok (.iload_n 1, 1) := by decide +kernel
theorem dX0_nextCourt_18 : decode cX0_nextCourt 18 = .ok (.istore_n 3, 1) := by decide +kernel
theorem dX0_nextCourt_19 : decode cX0_nextCourt 19 = .ok (.iload_n 3, 1) := by decide +kernel
theorem dX0_nextCourt_20 : decode cX0_nextCourt 20 = .ok (.iload_n 2, 1) := by decide +kernel
theorem dX0_nextCourt_21 : decode cX0_nextCourt 21 = .ok (.if_icmp .ge 32, 3) := by decide +kernel
theorem dX0_nextCourt_24 : decode cX0_nextCourt 24 = .ok (.aload_n 0, 1) := by decide +kernel
theorem dX0_nextCourt_25 : decode cX0_nextCourt 25 = .ok (.iload_n 3, 1) := by decide +kernel
theorem dX0_nextCourt_26 : decode cX0_nextCourt 26 = .ok (.invokestatic 53, 3) := by decide +kernel
theorem dX0_nextCourt_29 : decode cX0_nextCourt 29 = .ok (.invokevirtual 160, 3) := by decide +kernel
theorem dX0_nextCourt_32 : decode cX0_nextCourt 32 = .ok (.istore 4, 2) := by decide +kernel
theorem dX0_nextCourt_34 : decode cX0_nextCourt 34 = .ok (.iload 4, 2) := by decide +kernel
theorem dX0_nextCourt_36 : decode cX0_nextCourt 36 = .ok (.ifCond .eq 9, 3) := by decide +kernel
theorem dX0_nextCourt_39 : decode cX0_nextCourt 39 = .ok (.iload 4, 2) := by decide +kernel
theorem dX0_nextCourt_41 : decode cX0_nextCourt 41 = .ok (.iconst 2, 1) := by decide +kernel
theorem dX0_nextCourt_42 : decode cX0_nextCourt 42 = .ok (.if_icmp .ne 5, 3) := by decide +kernel
theorem dX0_nextCourt_45 : decode cX0_nextCourt 45 = .ok (.iload_n 3, 1) := by decide +kernel
theorem dX0_nextCourt_46 : decode cX0_nextCourt 46 = .ok (.ireturn, 1) := by decide +kernel
theorem dX0_nextCourt_47 : decode cX0_nextCourt 47 = .ok (.iinc 3 1, 3) := by decide +kernel
theorem dX0_nextCourt_50 : decode cX0_nextCourt 50 = .ok (.goto (-31), 3) := by decide +kernel
theorem dX0_nextCourt_53 : decode cX0_nextCourt 53 = .ok (.iconst (-1), 1) := by decide +kernel
theorem dX0_nextCourt_54 : decode cX0_nextCourt 54 = .ok (.ireturn, 1) := by decide +kernel
set_option maxRecDepth 20000 in
theorem ggX0_votes_X0_checkYear : GoodIn wsX0_votes wsX0_checkYear := goodIn_ca (goodIn_r _ [4, 5, 6] (by decide +kernel) (by decide +kernel)) (goodIn_sub (fun _ h => List.mem_cons_of_mem _ (List.mem_append_right _ h)) (by decide +kernel))
set_option maxRecDepth 20000 in
theorem gX0_votes_X0_checkYear : GoodIn wsX0_votes (va_wsS RX0 66 yX0_checkYear wsX0_checkYear) := goodIn_app (goodIn_of _ (by decide +kernel)) ggX0_votes_X0_checkYear
set_option maxRecDepth 20000 in
theorem ggX0_votes_X0_lastDayOf : GoodIn wsX0_votes wsX0_lastDayOf := goodIn_r _ [9, 10, 11, 3, 12] (by decide +kernel) (by decide +kernel)
set_option maxRecDepth 20000 in
theorem gX0_votes_X0_lastDayOf : GoodIn wsX0_votes (va_wsS RX0 117 yX0_lastDayOf wsX0_lastDayOf) := goodIn_app (goodIn_of _ (by decide +kernel)) ggX0_votes_X0_lastDayOf
set_option maxRecDepth 20000 in
theorem ggX0_votes_X0_firstDayOf : GoodIn wsX0_votes wsX0_firstDayOf := goodIn_r _ [12] (by decide +kernel) (by decide +kernel)
set_option maxRecDepth 20000 in
theorem gX0_votes_X0_firstDayOf : GoodIn wsX0_votes (va_wsS RX0 36 yX0_firstDayOf wsX0_firstDayOf) := goodIn_app (goodIn_of _ (by decide +kernel)) ggX0_votes_X0_firstDayOf
set_option maxRecDepth 20000 in
theorem ggX0_votes_X0_isVotingDay : GoodIn wsX0_votes wsX0_isVotingDay := goodIn_r _ [16, 17, 18, 3, 19, 20, 21, 22, 23, 24, 25, 26, 27, 28, 29, 30, 31, 32, 33, 34, 35, 36, 37, 38, 39, 40, 41, 42] (by decide +kernel) (by decide +kernel)
set_option maxRecDepth 20000 in
theorem gX0_votes_X0_isVotingDay : GoodIn wsX0_votes (wsV RX0 163 RX0 yX0_isVotingDay wsX0_isVotingDay) := goodIn_app (goodIn_of _ (by decide +kernel)) ggX0_votes_X0_isVotingDay
theorem dX0_votes_0 : decode cX0_votes 0 = .ok (.iload_n 1, 1) := by decide +kernel
theorem dX0_votes_1 : decode cX0_votes 1 = .ok (.invokestatic 66, 3) := by decide +kernel
theorem dX0_votes_4 : decode cX0_votes 4 = .ok (.iload_n 1, 1) := by decide +kernel
theorem dX0_votes_5 : decode cX0_votes 5 = .ok (.invokestatic 117, 3) := by decide +kernel
theorem dX0_votes_8 : decode cX0_votes 8 = .ok (.istore_n 2, 1) := by decide +kernel
theorem dX0_votes_9 : decode cX0_votes 9 = .ok (.iconst 0, 1) := by decide +kernel
theorem dX0_votes_10 : decode cX0_votes 10 = .ok (.istore_n 3, 1) := by decide +kernel
theorem dX0_votes_11 : decode cX0_votes 11 = .ok (.iload_n 1, 1) := by decide +kernel
theorem dX0_votes_12 : decode cX0_votes 12 = .ok (.invokestatic 36, 3) := by decide +kernel
theorem dX0_votes_15 : decode cX0_votes 15 = .ok (.istore 4, 2) := by decide +kernel
theorem dX0_votes_17 : decode cX0_votes 17 = .ok (.iload 4, 2) := by decide +kernel
theorem dX0_votes_19 : decode cX0_votes 19 = .ok (.iload_n 2, 1) := by decide +kernel
theorem dX0_votes_20 : decode cX0_votes 20 = .ok (.if_icmp .gt 21, 3) := by decide +kernel
theorem dX0_votes_23 : decode cX0_votes 23 = .ok (.aload_n 0, 1) := by decide +kernel
theorem dX0_votes_24 : decode cX0_votes 24 = .ok (.iload 4, 2) := by decide +kernel
theorem dX0_votes_26 : decode cX0_votes 26 = .ok (.invokevirtual 163, 3) := by decide +kernel
theorem dX0_votes_29 : decode cX0_votes 29 = .ok (.ifCond .eq 6, 3) := by decide +kernel
theorem dX0_votes_32 : decode cX0_votes 32 = .ok (.iinc 3 1, 3) := by decide +kernel
theorem dX0_votes_35 : decode cX0_votes 35 = .ok (.iinc 4 1, 3) := by decide +kernel
theorem dX0_votes_38 : decode cX0_votes 38 = .ok (.goto (-21), 3) := by decide +kernel
theorem dX0_votes_41 : decode cX0_votes 41 = .ok (.iload_n 3, 1) := by decide +kernel
theorem dX0_votes_42 : decode cX0_votes 42 = .ok (.ireturn, 1) := by decide +kernel
theorem dX0_checkYear_0 : decode cX0_checkYear 0 = .ok (.iload_n 0, 1) := by decide +kernel
theorem dX0_checkYear_1 : decode cX0_checkYear 1 = .ok (.iconst 1, 1) := by decide +kernel
theorem dX0_checkYear_2 : decode cX0_checkYear 2 = .ok (.if_icmp .lt 10, 3) := by decide +kernel
theorem dX0_checkYear_5 : decode cX0_checkYear 5 = .ok (.iload_n 0, 1) := by decide +kernel
theorem dX0_checkYear_6 : decode cX0_checkYear 6 = .ok (.sipush 3000, 3) := by decide +kernel
theorem dX0_checkYear_9 : decode cX0_checkYear 9 = .ok (.if_icmp .le 13, 3) := by decide +kernel
theorem dX0_checkYear_12 : decode cX0_checkYear 12 = .ok (.new 153, 3) := by decide +kernel
theorem dX0_checkYear_15 : decode cX0_checkYear 15 = .ok (.dup, 1) := by decide +kernel
theorem dX0_checkYear_16 : decode cX0_checkYear 16 = .ok (.ldc 169, 2) := by decide +kernel
theorem dX0_checkYear_18 : decode cX0_checkYear 18 = .ok (.invokespecial 157, 3) := by decide +kernel
theorem dX0_checkYear_21 : decode cX0_checkYear 21 = .ok (.athrow, 1) := by decide +kernel
theorem dX0_checkYear_22 : decode cX0_checkYear 22 = .ok (.return_, 1) := by decide +kernel
theorem dX0_checkMonth_0 : decode cX0_checkMonth 0 = .ok (.iload_n 0, 1) := by decide +kernel
theorem dX0_checkMonth_1 : decode cX0_checkMonth 1 = .ok (.iconst 1, 1) := by decide +kernel
theorem dX0_checkMonth_2 : decode cX0_checkMonth 2 = .ok (.if_icmp .lt 9, 3) := by decide +kernel
theorem dX0_checkMonth_5 : decode cX0_checkMonth 5 = .ok (.iload_n 0, 1) := by decide +kernel
theorem dX0_checkMonth_6 : decode cX0_checkMonth 6 = .ok (.bipush 12, 2) := by decide +kernel
theorem dX0_checkMonth_8 : decode cX0_checkMonth 8 = .ok (.if_icmp .le 13, 3) := by decide +kernel
theorem dX0_checkMonth_11 : decode cX0_checkMonth 11 = .ok (.new 153, 3) := by decide +kernel
theorem dX0_checkMonth_14 : decode cX0_checkMonth 14 = .ok (.dup, 1) := by decide +kernel
theorem dX0_checkMonth_15 : decode cX0_checkMonth 15 = .ok (.ldc 171, 2) := by decide +kernel
theorem dX0_checkMonth_17 : decode cX0_checkMonth 17 = .ok (.invokespecial 157, 3) := by decide +kernel
theorem dX0_checkMonth_20 : decode cX0_checkMonth 20 = .ok (.athrow, 1) := by decide +kernel
theorem dX0_checkMonth_21 : decode cX0_checkMonth 21 = .ok (.return_, 1) := by decide +kernel
set_option maxRecDepth 20000 in
theorem ggX0_checkDate_X0_checkYear : GoodIn wsX0_checkDate wsX0_checkYear := goodIn_ca (goodIn_r _ [6, 1, 2] (by decide +kernel) (by decide +kernel)) (goodIn_sub (fun _ h => List.mem_cons_of_mem _ (List.mem_append_right _ h)) (by decide +kernel))
set_option maxRecDepth 20000 in
theorem gX0_checkDate_X0_checkYear : GoodIn wsX0_checkDate (va_wsS RX0 66 yX0_checkYear wsX0_checkYear) := goodIn_app (goodIn_of _ (by decide +kernel)) ggX0_checkDate_X0_checkYear
set_option maxRecDepth 20000 in
theorem ggX0_checkDate_X0_checkMonth : GoodIn wsX0_checkDate wsX0_checkMonth := goodIn_ca (goodIn_r _ [9, 1, 2] (by decide +kernel) (by decide +kernel)) (goodIn_sub (fun _ h => List.mem_cons_of_mem _ (List.mem_append_right _ h)) (by decide +kernel))
set_option maxRecDepth 20000 in
theorem gX0_checkDate_X0_checkMonth : GoodIn wsX0_checkDate (va_wsS RX0 69 yX0_checkMonth wsX0_checkMonth) := goodIn_app (goodIn_of _ (by decide +kernel)) ggX0_checkDate_X0_checkMonth
set_option maxRecDepth 20000 in
theorem ggX0_checkDate_X0_lengthOf : GoodIn wsX0_checkDate wsX0_lengthOf := goodIn_r _ [12, 13, 14, 5, 15, 16, 17, 18] (by decide +kernel) (by decide +kernel)
set_option maxRecDepth 20000 in
theorem gX0_checkDate_X0_lengthOf : GoodIn wsX0_checkDate (va_wsS RX0 43 yX0_lengthOf wsX0_lengthOf) := goodIn_app (goodIn_of _ (by decide +kernel)) ggX0_checkDate_X0_lengthOf
theorem dX0_checkDate_0 : decode cX0_checkDate 0 = .ok (.iload_n 0, 1) := by decide +kernel
theorem dX0_checkDate_1 : decode cX0_checkDate 1 = .ok (.invokestatic 66, 3) := by decide +kernel
theorem dX0_checkDate_4 : decode cX0_checkDate 4 = .ok (.iload_n 1, 1) := by decide +kernel
theorem dX0_checkDate_5 : decode cX0_checkDate 5 = .ok (.invokestatic 69, 3) := by decide +kernel
theorem dX0_checkDate_8 : decode cX0_checkDate 8 = .ok (.iload_n 2, 1) := by decide +kernel
theorem dX0_checkDate_9 : decode cX0_checkDate 9 = .ok (.iconst 1, 1) := by decide +kernel
theorem dX0_checkDate_10 : decode cX0_checkDate 10 = .ok (.if_icmp .lt 12, 3) := by decide +kernel
theorem dX0_checkDate_13 : decode cX0_checkDate 13 = .ok (.iload_n 2, 1) := by decide +kernel
theorem dX0_checkDate_14 : decode cX0_checkDate 14 = .ok (.iload_n 0, 1) := by decide +kernel
theorem dX0_checkDate_15 : decode cX0_checkDate 15 = .ok (.iload_n 1, 1) := by decide +kernel
theorem dX0_checkDate_16 : decode cX0_checkDate 16 = .ok (.invokestatic 43, 3) := by decide +kernel
theorem dX0_checkDate_19 : decode cX0_checkDate 19 = .ok (.if_icmp .le 13, 3) := by decide +kernel
theorem dX0_checkDate_22 : decode cX0_checkDate 22 = .ok (.new 153, 3) := by decide +kernel
theorem dX0_checkDate_25 : decode cX0_checkDate 25 = .ok (.dup, 1) := by decide +kernel
theorem dX0_checkDate_26 : decode cX0_checkDate 26 = .ok (.ldc 173, 2) := by decide +kernel
theorem dX0_checkDate_28 : decode cX0_checkDate 28 = .ok (.invokespecial 157, 3) := by decide +kernel
theorem dX0_checkDate_31 : decode cX0_checkDate 31 = .ok (.athrow, 1) := by decide +kernel
theorem dX0_checkDate_32 : decode cX0_checkDate 32 = .ok (.return_, 1) := by decide +kernel
theorem dX0_checkNumber_0 : decode cX0_checkNumber 0 = .ok (.iload_n 0, 1) := by decide +kernel
theorem dX0_checkNumber_1 : decode cX0_checkNumber 1 = .ok (.ifCond .lt 9, 3) := by decide +kernel
theorem dX0_checkNumber_4 : decode cX0_checkNumber 4 = .ok (.iload_n 0, 1) := by decide +kernel
theorem dX0_checkNumber_5 : decode cX0_checkNumber 5 = .ok (.ldc 31, 2) := by decide +kernel
theorem dX0_checkNumber_7 : decode cX0_checkNumber 7 = .ok (.if_icmp .lt 13, 3) := by decide +kernel
theorem dX0_checkNumber_10 : decode cX0_checkNumber 10 = .ok (.new 153, 3) := by decide +kernel
theorem dX0_checkNumber_13 : decode cX0_checkNumber 13 = .ok (.dup, 1) := by decide +kernel
theorem dX0_checkNumber_14 : decode cX0_checkNumber 14 = .ok (.ldc 175, 2) := by decide +kernel
theorem dX0_checkNumber_16 : decode cX0_checkNumber 16 = .ok (.invokespecial 157, 3) := by decide +kernel
theorem dX0_checkNumber_19 : decode cX0_checkNumber 19 = .ok (.athrow, 1) := by decide +kernel
theorem dX0_checkNumber_20 : decode cX0_checkNumber 20 = .ok (.return_, 1) := by decide +kernel
theorem dX0_checkAnchor_0 : decode cX0_checkAnchor 0 = .ok (.iload_n 0, 1) := by decide +kernel
theorem dX0_checkAnchor_1 : decode cX0_checkAnchor 1 = .ok (.ifCond .lt 8, 3) := by decide +kernel
theorem dX0_checkAnchor_4 : decode cX0_checkAnchor 4 = .ok (.iload_n 0, 1) := by decide +kernel
theorem dX0_checkAnchor_5 : decode cX0_checkAnchor 5 = .ok (.iconst 2, 1) := by decide +kernel
theorem dX0_checkAnchor_6 : decode cX0_checkAnchor 6 = .ok (.if_icmp .le 13, 3) := by decide +kernel
theorem dX0_checkAnchor_9 : decode cX0_checkAnchor 9 = .ok (.new 75, 3) := by decide +kernel
theorem dX0_checkAnchor_12 : decode cX0_checkAnchor 12 = .ok (.dup, 1) := by decide +kernel
theorem dX0_checkAnchor_13 : decode cX0_checkAnchor 13 = .ok (.ldc 177, 2) := by decide +kernel
theorem dX0_checkAnchor_15 : decode cX0_checkAnchor 15 = .ok (.invokespecial 79, 3) := by decide +kernel
theorem dX0_checkAnchor_18 : decode cX0_checkAnchor 18 = .ok (.athrow, 1) := by decide +kernel
theorem dX0_checkAnchor_19 : decode cX0_checkAnchor 19 = .ok (.return_, 1) := by decide +kernel
theorem dX0_isPlace_0 : decode cX0_isPlace 0 = .ok (.iload_n 0, 1) := by decide +kernel
theorem dX0_isPlace_1 : decode cX0_isPlace 1 = .ok (.iconst 1, 1) := by decide +kernel
theorem dX0_isPlace_2 : decode cX0_isPlace 2 = .ok (.if_icmp .lt 14, 3) := by decide +kernel
theorem dX0_isPlace_5 : decode cX0_isPlace 5 = .ok (.iload_n 0, 1) := by decide +kernel
theorem dX0_isPlace_6 : decode cX0_isPlace 6 = .ok (.sipush 365, 3) := by decide +kernel
theorem dX0_isPlace_9 : decode cX0_isPlace 9 = .ok (.if_icmp .gt 7, 3) := by decide +kernel
theorem dX0_isPlace_12 : decode cX0_isPlace 12 = .ok (.iconst 1, 1) := by decide +kernel
theorem dX0_isPlace_13 : decode cX0_isPlace 13 = .ok (.goto 4, 3) := by decide +kernel
theorem dX0_isPlace_16 : decode cX0_isPlace 16 = .ok (.iconst 0, 1) := by decide +kernel
theorem dX0_isPlace_17 : decode cX0_isPlace 17 = .ok (.ireturn, 1) := by decide +kernel
theorem dX0_isConsul_0 : decode cX0_isConsul 0 = .ok (.iload_n 0, 1) := by decide +kernel
theorem dX0_isConsul_1 : decode cX0_isConsul 1 = .ok (.iconst 1, 1) := by decide +kernel
theorem dX0_isConsul_2 : decode cX0_isConsul 2 = .ok (.if_icmp .lt 14, 3) := by decide +kernel
theorem dX0_isConsul_5 : decode cX0_isConsul 5 = .ok (.iload_n 0, 1) := by decide +kernel
theorem dX0_isConsul_6 : decode cX0_isConsul 6 = .ok (.sipush 999, 3) := by decide +kernel
theorem dX0_isConsul_9 : decode cX0_isConsul 9 = .ok (.if_icmp .gt 7, 3) := by decide +kernel
theorem dX0_isConsul_12 : decode cX0_isConsul 12 = .ok (.iconst 1, 1) := by decide +kernel
theorem dX0_isConsul_13 : decode cX0_isConsul 13 = .ok (.goto 4, 3) := by decide +kernel
theorem dX0_isConsul_16 : decode cX0_isConsul 16 = .ok (.iconst 0, 1) := by decide +kernel
theorem dX0_isConsul_17 : decode cX0_isConsul 17 = .ok (.ireturn, 1) := by decide +kernel
theorem dX0_isLeap_0 : decode cX0_isLeap 0 = .ok (.iload_n 0, 1) := by decide +kernel
theorem dX0_isLeap_1 : decode cX0_isLeap 1 = .ok (.iconst 4, 1) := by decide +kernel
theorem dX0_isLeap_2 : decode cX0_isLeap 2 = .ok (.irem, 1) := by decide +kernel
theorem dX0_isLeap_3 : decode cX0_isLeap 3 = .ok (.ifCond .ne 7, 3) := by decide +kernel
theorem dX0_isLeap_6 : decode cX0_isLeap 6 = .ok (.iconst 1, 1) := by decide +kernel
theorem dX0_isLeap_7 : decode cX0_isLeap 7 = .ok (.goto 4, 3) := by decide +kernel
theorem dX0_isLeap_10 : decode cX0_isLeap 10 = .ok (.iconst 0, 1) := by decide +kernel
theorem dX0_isLeap_11 : decode cX0_isLeap 11 = .ok (.ireturn, 1) := by decide +kernel
theorem dX0_firstDayOf_0 : decode cX0_firstDayOf 0 = .ok (.iload_n 0, 1) := by decide +kernel
theorem dX0_firstDayOf_1 : decode cX0_firstDayOf 1 = .ok (.iconst 1, 1) := by decide +kernel
theorem dX0_firstDayOf_2 : decode cX0_firstDayOf 2 = .ok (.isub, 1) := by decide +kernel
theorem dX0_firstDayOf_3 : decode cX0_firstDayOf 3 = .ok (.sipush 365, 3) := by decide +kernel
theorem dX0_firstDayOf_6 : decode cX0_firstDayOf 6 = .ok (.imul, 1) := by decide +kernel
theorem dX0_firstDayOf_7 : decode cX0_firstDayOf 7 = .ok (.iload_n 0, 1) := by decide +kernel
theorem dX0_firstDayOf_8 : decode cX0_firstDayOf 8 = .ok (.iconst 1, 1) := by decide +kernel
theorem dX0_firstDayOf_9 : decode cX0_firstDayOf 9 = .ok (.isub, 1) := by decide +kernel
theorem dX0_firstDayOf_10 : decode cX0_firstDayOf 10 = .ok (.iconst 4, 1) := by decide +kernel
theorem dX0_firstDayOf_11 : decode cX0_firstDayOf 11 = .ok (.idiv, 1) := by decide +kernel
theorem dX0_firstDayOf_12 : decode cX0_firstDayOf 12 = .ok (.iadd, 1) := by decide +kernel
theorem dX0_firstDayOf_13 : decode cX0_firstDayOf 13 = .ok (.ireturn, 1) := by decide +kernel
set_option maxRecDepth 20000 in
theorem ggX0_lastDayOf_X0_firstDayOf : GoodIn wsX0_lastDayOf wsX0_firstDayOf := goodIn_r _ [4] (by decide +kernel) (by decide +kernel)
set_option maxRecDepth 20000 in
theorem gX0_lastDayOf_X0_firstDayOf : GoodIn wsX0_lastDayOf (va_wsS RX0 36 yX0_firstDayOf wsX0_firstDayOf) := goodIn_app (goodIn_of _ (by decide +kernel)) ggX0_lastDayOf_X0_firstDayOf
theorem dX0_lastDayOf_0 : decode cX0_lastDayOf 0 = .ok (.iload_n 0, 1) := by decide +kernel
theorem dX0_lastDayOf_1 : decode cX0_lastDayOf 1 = .ok (.iconst 1, 1) := by decide +kernel
theorem dX0_lastDayOf_2 : decode cX0_lastDayOf 2 = .ok (.iadd, 1) := by decide +kernel
theorem dX0_lastDayOf_3 : decode cX0_lastDayOf 3 = .ok (.invokestatic 36, 3) := by decide +kernel
theorem dX0_lastDayOf_6 : decode cX0_lastDayOf 6 = .ok (.iconst 1, 1) := by decide +kernel
theorem dX0_lastDayOf_7 : decode cX0_lastDayOf 7 = .ok (.isub, 1) := by decide +kernel
theorem dX0_lastDayOf_8 : decode cX0_lastDayOf 8 = .ok (.ireturn, 1) := by decide +kernel
theorem dX0_yearAt_0 : decode cX0_yearAt 0 = .ok (.iload_n 0, 1) := by decide +kernel
theorem dX0_yearAt_1 : decode cX0_yearAt 1 = .ok (.sipush 1461, 3) := by decide +kernel
theorem dX0_yearAt_4 : decode cX0_yearAt 4 = .ok (.irem, 1) := by decide +kernel
theorem dX0_yearAt_5 : decode cX0_yearAt 5 = .ok (.sipush 365, 3) := by decide +kernel
theorem dX0_yearAt_8 : decode cX0_yearAt 8 = .ok (.idiv, 1) := by decide +kernel
theorem dX0_yearAt_9 : decode cX0_yearAt 9 = .ok (.iconst 3, 1) := by decide +kernel
theorem dX0_yearAt_10 : decode cX0_yearAt 10 = .ok (.invokestatic 166, 3) := by decide +kernel
theorem dX0_yearAt_13 : decode cX0_yearAt 13 = .ok (.istore_n 1, 1) := by decide +kernel
theorem dX0_yearAt_14 : decode cX0_yearAt 14 = .ok (.iload_n 0, 1) := by decide +kernel
theorem dX0_yearAt_15 : decode cX0_yearAt 15 = .ok (.sipush 1461, 3) := by decide +kernel
theorem dX0_yearAt_18 : decode cX0_yearAt 18 = .ok (.idiv, 1) := by decide +kernel
theorem dX0_yearAt_19 : decode cX0_yearAt 19 = .ok (.iconst 4, 1) := by decide +kernel
theorem dX0_yearAt_20 : decode cX0_yearAt 20 = .ok (.imul, 1) := by decide +kernel
theorem dX0_yearAt_21 : decode cX0_yearAt 21 = .ok (.iload_n 1, 1) := by decide +kernel
theorem dX0_yearAt_22 : decode cX0_yearAt 22 = .ok (.iadd, 1) := by decide +kernel
theorem dX0_yearAt_23 : decode cX0_yearAt 23 = .ok (.iconst 1, 1) := by decide +kernel
theorem dX0_yearAt_24 : decode cX0_yearAt 24 = .ok (.iadd, 1) := by decide +kernel
theorem dX0_yearAt_25 : decode cX0_yearAt 25 = .ok (.ireturn, 1) := by decide +kernel
theorem dX0_commonLengthOf_0 : decode cX0_commonLengthOf 0 = .ok (.iload_n 0, 1) := by decide +kernel
theorem dX0_commonLengthOf_1 : decode cX0_commonLengthOf 1 = .ok (.tableswitch 61 2 11 #[55, 61, 58, 61, 58, 61, 61, 58, 61, 58], 55) := by decide +kernel
theorem dX0_commonLengthOf_56 : decode cX0_commonLengthOf 56 = .ok (.bipush 28, 2) := by decide +kernel
theorem dX0_commonLengthOf_58 : decode cX0_commonLengthOf 58 = .ok (.ireturn, 1) := by decide +kernel
theorem dX0_commonLengthOf_59 : decode cX0_commonLengthOf 59 = .ok (.bipush 30, 2) := by decide +kernel
theorem dX0_commonLengthOf_61 : decode cX0_commonLengthOf 61 = .ok (.ireturn, 1) := by decide +kernel
theorem dX0_commonLengthOf_62 : decode cX0_commonLengthOf 62 = .ok (.bipush 31, 2) := by decide +kernel
theorem dX0_commonLengthOf_64 : decode cX0_commonLengthOf 64 = .ok (.ireturn, 1) := by decide +kernel
set_option maxRecDepth 20000 in
theorem ggX0_lengthOf_X0_isLeap : GoodIn wsX0_lengthOf wsX0_isLeap := goodIn_r _ [4] (by decide +kernel) (by decide +kernel)
set_option maxRecDepth 20000 in
theorem gX0_lengthOf_X0_isLeap : GoodIn wsX0_lengthOf (va_wsS RX0 179 yX0_isLeap wsX0_isLeap) := goodIn_app (goodIn_of _ (by decide +kernel)) ggX0_lengthOf_X0_isLeap
set_option maxRecDepth 20000 in
theorem ggX0_lengthOf_X0_commonLengthOf : GoodIn wsX0_lengthOf wsX0_commonLengthOf := goodIn_r _ [7] (by decide +kernel) (by decide +kernel)
set_option maxRecDepth 20000 in
theorem gX0_lengthOf_X0_commonLengthOf : GoodIn wsX0_lengthOf (va_wsS RX0 182 yX0_commonLengthOf wsX0_commonLengthOf) := goodIn_app (goodIn_of _ (by decide +kernel)) ggX0_lengthOf_X0_commonLengthOf
theorem dX0_lengthOf_0 : decode cX0_lengthOf 0 = .ok (.iload_n 1, 1) := by decide +kernel
theorem dX0_lengthOf_1 : decode cX0_lengthOf 1 = .ok (.iconst 2, 1) := by decide +kernel
theorem dX0_lengthOf_2 : decode cX0_lengthOf 2 = .ok (.if_icmp .ne 14, 3) := by decide +kernel
theorem dX0_lengthOf_5 : decode cX0_lengthOf 5 = .ok (.iload_n 0, 1) := by decide +kernel
theorem dX0_lengthOf_6 : decode cX0_lengthOf 6 = .ok (.invokestatic 179, 3) := by decide +kernel
theorem dX0_lengthOf_9 : decode cX0_lengthOf 9 = .ok (.ifCond .eq 7, 3) := by decide +kernel
theorem dX0_lengthOf_12 : decode cX0_lengthOf 12 = .ok (.iconst 1, 1) := by decide +kernel
theorem dX0_lengthOf_13 : decode cX0_lengthOf 13 = .ok (.goto 4, 3) := by decide +kernel
theorem dX0_lengthOf_16 : decode cX0_lengthOf 16 = .ok (.iconst 0, 1) := by decide +kernel
theorem dX0_lengthOf_17 : decode cX0_lengthOf 17 = .ok (.istore_n 2, 1) := by decide +kernel
theorem dX0_lengthOf_18 : decode cX0_lengthOf 18 = .ok (.iload_n 2, 1) := by decide +kernel
theorem dX0_lengthOf_19 : decode cX0_lengthOf 19 = .ok (.ifCond .eq 12, 3) := by decide +kernel
theorem dX0_lengthOf_22 : decode cX0_lengthOf 22 = .ok (.iload_n 1, 1) := by decide +kernel
theorem dX0_lengthOf_23 : decode cX0_lengthOf 23 = .ok (.invokestatic 182, 3) := by decide +kernel
theorem dX0_lengthOf_26 : decode cX0_lengthOf 26 = .ok (.iconst 1, 1) := by decide +kernel
theorem dX0_lengthOf_27 : decode cX0_lengthOf 27 = .ok (.iadd, 1) := by decide +kernel
theorem dX0_lengthOf_28 : decode cX0_lengthOf 28 = .ok (.goto 7, 3) := by decide +kernel
theorem dX0_lengthOf_31 : decode cX0_lengthOf 31 = .ok (.iload_n 1, 1) := by decide +kernel
theorem dX0_lengthOf_32 : decode cX0_lengthOf 32 = .ok (.invokestatic 182, 3) := by decide +kernel
theorem dX0_lengthOf_35 : decode cX0_lengthOf 35 = .ok (.ireturn, 1) := by decide +kernel
set_option maxRecDepth 20000 in
theorem ggX0_commonDaysBefore_X0_commonLengthOf : GoodIn wsX0_commonDaysBefore wsX0_commonLengthOf := goodIn_r _ [4] (by decide +kernel) (by decide +kernel)
set_option maxRecDepth 20000 in
theorem gX0_commonDaysBefore_X0_commonLengthOf : GoodIn wsX0_commonDaysBefore (va_wsS RX0 182 yX0_commonLengthOf wsX0_commonLengthOf) := goodIn_app (goodIn_of _ (by decide +kernel)) ggX0_commonDaysBefore_X0_commonLengthOf
theorem dX0_commonDaysBefore_0 : decode cX0_commonDaysBefore 0 = .ok (.iconst 0, 1) := by decide +kernel
theorem dX0_commonDaysBefore_1 : decode cX0_commonDaysBefore 1 = .ok (.istore_n 1, 1) := by decide +kernel
theorem dX0_commonDaysBefore_2 : decode cX0_commonDaysBefore 2 = .ok (.iconst 1, 1) := by decide +kernel
theorem dX0_commonDaysBefore_3 : decode cX0_commonDaysBefore 3 = .ok (.istore_n 2, 1) := by decide +kernel
theorem dX0_commonDaysBefore_4 : decode cX0_commonDaysBefore 4 = .ok (.iload_n 2, 1) := by decide +kernel
theorem dX0_commonDaysBefore_5 : decode cX0_commonDaysBefore 5 = .ok (.iload_n 0, 1) := by decide +kernel
theorem dX0_commonDaysBefore_6 : decode cX0_commonDaysBefore 6 = .ok (.if_icmp .ge 16, 3) := by decide +kernel
theorem dX0_commonDaysBefore_9 : decode cX0_commonDaysBefore 9 = .ok (.iload_n 1, 1) := by decide +kernel
theorem dX0_commonDaysBefore_10 : decode cX0_commonDaysBefore 10 = .ok (.iload_n 2, 1) := by decide +kernel
theorem dX0_commonDaysBefore_11 : decode cX0_commonDaysBefore 11 = .ok (.invokestatic 182, 3) := by decide +kernel
theorem dX0_commonDaysBefore_14 : decode cX0_commonDaysBefore 14 = .ok (.iadd, 1) := by decide +kernel
theorem dX0_commonDaysBefore_15 : decode cX0_commonDaysBefore 15 = .ok (.istore_n 1, 1) := by decide +kernel
theorem dX0_commonDaysBefore_16 : decode cX0_commonDaysBefore 16 = .ok (.iinc 2 1, 3) := by decide +kernel
theorem dX0_commonDaysBefore_19 : decode cX0_commonDaysBefore 19 = .ok (.goto (-15), 3) := by decide +kernel
theorem dX0_commonDaysBefore_22 : decode cX0_commonDaysBefore 22 = .ok (.iload_n 1, 1) := by decide +kernel
theorem dX0_commonDaysBefore_23 : decode cX0_commonDaysBefore 23 = .ok (.ireturn, 1) := by decide +kernel
set_option maxRecDepth 20000 in
theorem ggX0_daysBefore_X0_isLeap : GoodIn wsX0_daysBefore wsX0_isLeap := goodIn_r _ [4] (by decide +kernel) (by decide +kernel)
set_option maxRecDepth 20000 in
theorem gX0_daysBefore_X0_isLeap : GoodIn wsX0_daysBefore (va_wsS RX0 179 yX0_isLeap wsX0_isLeap) := goodIn_app (goodIn_of _ (by decide +kernel)) ggX0_daysBefore_X0_isLeap
set_option maxRecDepth 20000 in
theorem ggX0_daysBefore_X0_commonDaysBefore : GoodIn wsX0_daysBefore wsX0_commonDaysBefore := goodIn_r _ [7, 8, 9, 3, 10] (by decide +kernel) (by decide +kernel)
set_option maxRecDepth 20000 in
theorem gX0_daysBefore_X0_commonDaysBefore : GoodIn wsX0_daysBefore (va_wsS RX0 185 yX0_commonDaysBefore wsX0_commonDaysBefore) := goodIn_app (goodIn_of _ (by decide +kernel)) ggX0_daysBefore_X0_commonDaysBefore
theorem dX0_daysBefore_0 : decode cX0_daysBefore 0 = .ok (.iload_n 1, 1) := by decide +kernel
theorem dX0_daysBefore_1 : decode cX0_daysBefore 1 = .ok (.iconst 2, 1) := by decide +kernel
theorem dX0_daysBefore_2 : decode cX0_daysBefore 2 = .ok (.if_icmp .le 14, 3) := by decide +kernel
theorem dX0_daysBefore_5 : decode cX0_daysBefore 5 = .ok (.iload_n 0, 1) := by decide +kernel
theorem dX0_daysBefore_6 : decode cX0_daysBefore 6 = .ok (.invokestatic 179, 3) := by decide +kernel
theorem dX0_daysBefore_9 : decode cX0_daysBefore 9 = .ok (.ifCond .eq 7, 3) := by decide +kernel
theorem dX0_daysBefore_12 : decode cX0_daysBefore 12 = .ok (.iconst 1, 1) := by decide +kernel
theorem dX0_daysBefore_13 : decode cX0_daysBefore 13 = .ok (.goto 4, 3) := by decide +kernel
theorem dX0_daysBefore_16 : decode cX0_daysBefore 16 = .ok (.iconst 0, 1) := by decide +kernel
theorem dX0_daysBefore_17 : decode cX0_daysBefore 17 = .ok (.istore_n 2, 1) := by decide +kernel
theorem dX0_daysBefore_18 : decode cX0_daysBefore 18 = .ok (.iload_n 2, 1) := by decide +kernel
theorem dX0_daysBefore_19 : decode cX0_daysBefore 19 = .ok (.ifCond .eq 12, 3) := by decide +kernel
theorem dX0_daysBefore_22 : decode cX0_daysBefore 22 = .ok (.iload_n 1, 1) := by decide +kernel
theorem dX0_daysBefore_23 : decode cX0_daysBefore 23 = .ok (.invokestatic 185, 3) := by decide +kernel
theorem dX0_daysBefore_26 : decode cX0_daysBefore 26 = .ok (.iconst 1, 1) := by decide +kernel
theorem dX0_daysBefore_27 : decode cX0_daysBefore 27 = .ok (.iadd, 1) := by decide +kernel
theorem dX0_daysBefore_28 : decode cX0_daysBefore 28 = .ok (.goto 7, 3) := by decide +kernel
theorem dX0_daysBefore_31 : decode cX0_daysBefore 31 = .ok (.iload_n 1, 1) := by decide +kernel
theorem dX0_daysBefore_32 : decode cX0_daysBefore 32 = .ok (.invokestatic 185, 3) := by decide +kernel
theorem dX0_daysBefore_35 : decode cX0_daysBefore 35 = .ok (.ireturn, 1) := by decide +kernel
theorem dX0_doubledDaysBefore_0 : decode cX0_doubledDaysBefore 0 = .ok (.iload_n 0, 1) := by decide +kernel
theorem dX0_doubledDaysBefore_1 : decode cX0_doubledDaysBefore 1 = .ok (.sipush 1461, 3) := by decide +kernel
theorem dX0_doubledDaysBefore_4 : decode cX0_doubledDaysBefore 4 = .ok (.iadd, 1) := by decide +kernel
theorem dX0_doubledDaysBefore_5 : decode cX0_doubledDaysBefore 5 = .ok (.iconst 1, 1) := by decide +kernel
theorem dX0_doubledDaysBefore_6 : decode cX0_doubledDaysBefore 6 = .ok (.isub, 1) := by decide +kernel
theorem dX0_doubledDaysBefore_7 : decode cX0_doubledDaysBefore 7 = .ok (.sipush 1149, 3) := by decide +kernel
theorem dX0_doubledDaysBefore_10 : decode cX0_doubledDaysBefore 10 = .ok (.isub, 1) := by decide +kernel
theorem dX0_doubledDaysBefore_11 : decode cX0_doubledDaysBefore 11 = .ok (.sipush 1461, 3) := by decide +kernel
theorem dX0_doubledDaysBefore_14 : decode cX0_doubledDaysBefore 14 = .ok (.idiv, 1) := by decide +kernel
theorem dX0_doubledDaysBefore_15 : decode cX0_doubledDaysBefore 15 = .ok (.ireturn, 1) := by decide +kernel
set_option maxRecDepth 20000 in
theorem ggX0_lawNumberAt_X0_doubledDaysBefore : GoodIn wsX0_lawNumberAt wsX0_doubledDaysBefore := goodIn_r _ [4] (by decide +kernel) (by decide +kernel)
set_option maxRecDepth 20000 in
theorem gX0_lawNumberAt_X0_doubledDaysBefore : GoodIn wsX0_lawNumberAt (va_wsS RX0 188 yX0_doubledDaysBefore wsX0_doubledDaysBefore) := goodIn_app (goodIn_of _ (by decide +kernel)) ggX0_lawNumberAt_X0_doubledDaysBefore
theorem dX0_lawNumberAt_0 : decode cX0_lawNumberAt 0 = .ok (.iload_n 0, 1) := by decide +kernel
theorem dX0_lawNumberAt_1 : decode cX0_lawNumberAt 1 = .ok (.iload_n 0, 1) := by decide +kernel
theorem dX0_lawNumberAt_2 : decode cX0_lawNumberAt 2 = .ok (.invokestatic 188, 3) := by decide +kernel
theorem dX0_lawNumberAt_5 : decode cX0_lawNumberAt 5 = .ok (.isub, 1) := by decide +kernel
theorem dX0_lawNumberAt_6 : decode cX0_lawNumberAt 6 = .ok (.ireturn, 1) := by decide +kernel
set_option maxRecDepth 20000 in
theorem ggX0_placeAt_X0_lawNumberAt : GoodIn wsX0_placeAt wsX0_lawNumberAt := goodIn_r _ [4, 5, 6, 3, 7] (by decide +kernel) (by decide +kernel)
set_option maxRecDepth 20000 in
theorem gX0_placeAt_X0_lawNumberAt : GoodIn wsX0_placeAt (va_wsS RX0 99 yX0_lawNumberAt wsX0_lawNumberAt) := goodIn_app (goodIn_of _ (by decide +kernel)) ggX0_placeAt_X0_lawNumberAt
theorem dX0_placeAt_0 : decode cX0_placeAt 0 = .ok (.iload_n 0, 1) := by decide +kernel
theorem dX0_placeAt_1 : decode cX0_placeAt 1 = .ok (.invokestatic 99, 3) := by decide +kernel
theorem dX0_placeAt_4 : decode cX0_placeAt 4 = .ok (.sipush 365, 3) := by decide +kernel
theorem dX0_placeAt_7 : decode cX0_placeAt 7 = .ok (.irem, 1) := by decide +kernel
theorem dX0_placeAt_8 : decode cX0_placeAt 8 = .ok (.iconst 1, 1) := by decide +kernel
theorem dX0_placeAt_9 : decode cX0_placeAt 9 = .ok (.iadd, 1) := by decide +kernel
theorem dX0_placeAt_10 : decode cX0_placeAt 10 = .ok (.ireturn, 1) := by decide +kernel
set_option maxRecDepth 20000 in
theorem ggX0_lastDayOfPlace_X0_isLeap : GoodIn wsX0_lastDayOfPlace wsX0_isLeap := goodIn_r _ [4] (by decide +kernel) (by decide +kernel)
set_option maxRecDepth 20000 in
theorem gX0_lastDayOfPlace_X0_isLeap : GoodIn wsX0_lastDayOfPlace (va_wsS RX0 179 yX0_isLeap wsX0_isLeap) := goodIn_app (goodIn_of _ (by decide +kernel)) ggX0_lastDayOfPlace_X0_isLeap
set_option maxRecDepth 20000 in
theorem ggX0_lastDayOfPlace_X0_firstDayOf : GoodIn wsX0_lastDayOfPlace wsX0_firstDayOf := goodIn_r _ [7] (by decide +kernel) (by decide +kernel)
set_option maxRecDepth 20000 in
theorem gX0_lastDayOfPlace_X0_firstDayOf : GoodIn wsX0_lastDayOfPlace (va_wsS RX0 36 yX0_firstDayOf wsX0_firstDayOf) := goodIn_app (goodIn_of _ (by decide +kernel)) ggX0_lastDayOfPlace_X0_firstDayOf
theorem dX0_lastDayOfPlace_0 : decode cX0_lastDayOfPlace 0 = .ok (.iload_n 0, 1) := by decide +kernel
theorem dX0_lastDayOfPlace_1 : decode cX0_lastDayOfPlace 1 = .ok (.invokestatic 179, 3) := by decide +kernel
theorem dX0_lastDayOfPlace_4 : decode cX0_lastDayOfPlace 4 = .ok (.ifCond .eq 13, 3) := by decide +kernel
theorem dX0_lastDayOfPlace_7 : decode cX0_lastDayOfPlace 7 = .ok (.iload_n 1, 1) := by decide +kernel
theorem dX0_lastDayOfPlace_8 : decode cX0_lastDayOfPlace 8 = .ok (.bipush 55, 2) := by decide +kernel
theorem dX0_lastDayOfPlace_10 : decode cX0_lastDayOfPlace 10 = .ok (.if_icmp .lt 7, 3) := by decide +kernel
theorem dX0_lastDayOfPlace_13 : decode cX0_lastDayOfPlace 13 = .ok (.iconst 1, 1) := by decide +kernel
theorem dX0_lastDayOfPlace_14 : decode cX0_lastDayOfPlace 14 = .ok (.goto 4, 3) := by decide +kernel
theorem dX0_lastDayOfPlace_17 : decode cX0_lastDayOfPlace 17 = .ok (.iconst 0, 1) := by decide +kernel
theorem dX0_lastDayOfPlace_18 : decode cX0_lastDayOfPlace 18 = .ok (.istore_n 2, 1) := by decide +kernel
theorem dX0_lastDayOfPlace_19 : decode cX0_lastDayOfPlace 19 = .ok (.iload_n 0, 1) := by decide +kernel
theorem dX0_lastDayOfPlace_20 : decode cX0_lastDayOfPlace 20 = .ok (.invokestatic 36, 3) := by decide +kernel
theorem dX0_lastDayOfPlace_23 : decode cX0_lastDayOfPlace 23 = .ok (.iload_n 1, 1) := by decide +kernel
theorem dX0_lastDayOfPlace_24 : decode cX0_lastDayOfPlace 24 = .ok (.iadd, 1) := by decide +kernel
theorem dX0_lastDayOfPlace_25 : decode cX0_lastDayOfPlace 25 = .ok (.iconst 1, 1) := by decide +kernel
theorem dX0_lastDayOfPlace_26 : decode cX0_lastDayOfPlace 26 = .ok (.isub, 1) := by decide +kernel
theorem dX0_lastDayOfPlace_27 : decode cX0_lastDayOfPlace 27 = .ok (.iload_n 2, 1) := by decide +kernel
theorem dX0_lastDayOfPlace_28 : decode cX0_lastDayOfPlace 28 = .ok (.ifCond .eq 7, 3) := by decide +kernel
theorem dX0_lastDayOfPlace_31 : decode cX0_lastDayOfPlace 31 = .ok (.iconst 1, 1) := by decide +kernel
theorem dX0_lastDayOfPlace_32 : decode cX0_lastDayOfPlace 32 = .ok (.goto 4, 3) := by decide +kernel
theorem dX0_lastDayOfPlace_35 : decode cX0_lastDayOfPlace 35 = .ok (.iconst 0, 1) := by decide +kernel
theorem dX0_lastDayOfPlace_36 : decode cX0_lastDayOfPlace 36 = .ok (.iadd, 1) := by decide +kernel
theorem dX0_lastDayOfPlace_37 : decode cX0_lastDayOfPlace 37 = .ok (.ireturn, 1) := by decide +kernel
set_option maxRecDepth 20000 in
theorem ggX0_monthOfPlace_X0_commonLengthOf : GoodIn wsX0_monthOfPlace wsX0_commonLengthOf := goodIn_r _ [4] (by decide +kernel) (by decide +kernel)
set_option maxRecDepth 20000 in
theorem gX0_monthOfPlace_X0_commonLengthOf : GoodIn wsX0_monthOfPlace (va_wsS RX0 182 yX0_commonLengthOf wsX0_commonLengthOf) := goodIn_app (goodIn_of _ (by decide +kernel)) ggX0_monthOfPlace_X0_commonLengthOf
theorem dX0_monthOfPlace_0 : decode cX0_monthOfPlace 0 = .ok (.iconst 1, 1) := by decide +kernel
theorem dX0_monthOfPlace_1 : decode cX0_monthOfPlace 1 = .ok (.istore_n 1, 1) := by decide +kernel
theorem dX0_monthOfPlace_2 : decode cX0_monthOfPlace 2 = .ok (.iload_n 1, 1) := by decide +kernel
theorem dX0_monthOfPlace_3 : decode cX0_monthOfPlace 3 = .ok (.invokestatic 182, 3) := by decide +kernel
theorem dX0_monthOfPlace_6 : decode cX0_monthOfPlace 6 = .ok (.istore_n 2, 1) := by decide +kernel
theorem dX0_monthOfPlace_7 : decode cX0_monthOfPlace 7 = .ok (.iload_n 1, 1) := by decide +kernel
theorem dX0_monthOfPlace_8 : decode cX0_monthOfPlace 8 = .ok (.bipush 12, 2) := by decide +kernel
theorem dX0_monthOfPlace_10 : decode cX0_monthOfPlace 10 = .ok (.if_icmp .ge 21, 3) := by decide +kernel
theorem dX0_monthOfPlace_13 : decode cX0_monthOfPlace 13 = .ok (.iload_n 0, 1) := by decide +kernel
theorem dX0_monthOfPlace_14 : decode cX0_monthOfPlace 14 = .ok (.iload_n 2, 1) := by decide +kernel
theorem dX0_monthOfPlace_15 : decode cX0_monthOfPlace 15 = .ok (.if_icmp .le 16, 3) := by decide +kernel
theorem dX0_monthOfPlace_18 : decode cX0_monthOfPlace 18 = .ok (.iinc 1 1, 3) := by decide +kernel
theorem dX0_monthOfPlace_21 : decode cX0_monthOfPlace 21 = .ok (.iload_n 2, 1) := by decide +kernel
theorem dX0_monthOfPlace_22 : decode cX0_monthOfPlace 22 = .ok (.iload_n 1, 1) := by decide +kernel
theorem dX0_monthOfPlace_23 : decode cX0_monthOfPlace 23 = .ok (.invokestatic 182, 3) := by decide +kernel
theorem dX0_monthOfPlace_26 : decode cX0_monthOfPlace 26 = .ok (.iadd, 1) := by decide +kernel
theorem dX0_monthOfPlace_27 : decode cX0_monthOfPlace 27 = .ok (.istore_n 2, 1) := by decide +kernel
theorem dX0_monthOfPlace_28 : decode cX0_monthOfPlace 28 = .ok (.goto (-21), 3) := by decide +kernel
theorem dX0_monthOfPlace_31 : decode cX0_monthOfPlace 31 = .ok (.iload_n 1, 1) := by decide +kernel
theorem dX0_monthOfPlace_32 : decode cX0_monthOfPlace 32 = .ok (.ireturn, 1) := by decide +kernel
theorem dX0_nonesDayOf_0 : decode cX0_nonesDayOf 0 = .ok (.iload_n 0, 1) := by decide +kernel
theorem dX0_nonesDayOf_1 : decode cX0_nonesDayOf 1 = .ok (.tableswitch 50 3 10 #[47, 50, 47, 50, 47, 50, 50, 47], 47) := by decide +kernel
theorem dX0_nonesDayOf_48 : decode cX0_nonesDayOf 48 = .ok (.bipush 7, 2) := by decide +kernel
theorem dX0_nonesDayOf_50 : decode cX0_nonesDayOf 50 = .ok (.ireturn, 1) := by decide +kernel
theorem dX0_nonesDayOf_51 : decode cX0_nonesDayOf 51 = .ok (.iconst 5, 1) := by decide +kernel
theorem dX0_nonesDayOf_52 : decode cX0_nonesDayOf 52 = .ok (.ireturn, 1) := by decide +kernel
set_option maxRecDepth 20000 in
theorem ggX0_placeOfAnchor_X0_commonDaysBefore : GoodIn wsX0_placeOfAnchor wsX0_commonDaysBefore := goodIn_r _ [4, 5, 6, 3, 7] (by decide +kernel) (by decide +kernel)
set_option maxRecDepth 20000 in
theorem gX0_placeOfAnchor_X0_commonDaysBefore : GoodIn wsX0_placeOfAnchor (va_wsS RX0 185 yX0_commonDaysBefore wsX0_commonDaysBefore) := goodIn_app (goodIn_of _ (by decide +kernel)) ggX0_placeOfAnchor_X0_commonDaysBefore
set_option maxRecDepth 20000 in
theorem ggX0_placeOfAnchor_X0_nonesDayOf : GoodIn wsX0_placeOfAnchor wsX0_nonesDayOf := goodIn_r _ [10] (by decide +kernel) (by decide +kernel)
set_option maxRecDepth 20000 in
theorem gX0_placeOfAnchor_X0_nonesDayOf : GoodIn wsX0_placeOfAnchor (va_wsS RX0 191 yX0_nonesDayOf wsX0_nonesDayOf) := goodIn_app (goodIn_of _ (by decide +kernel)) ggX0_placeOfAnchor_X0_nonesDayOf
theorem dX0_placeOfAnchor_0 : decode cX0_placeOfAnchor 0 = .ok (.iload_n 0, 1) := by decide +kernel
theorem dX0_placeOfAnchor_1 : decode cX0_placeOfAnchor 1 = .ok (.invokestatic 185, 3) := by decide +kernel
theorem dX0_placeOfAnchor_4 : decode cX0_placeOfAnchor 4 = .ok (.istore_n 2, 1) := by decide +kernel
theorem dX0_placeOfAnchor_5 : decode cX0_placeOfAnchor 5 = .ok (.iload_n 1, 1) := by decide +kernel
theorem dX0_placeOfAnchor_6 : decode cX0_placeOfAnchor 6 = .ok (.ifCond .ne 7, 3) := by decide +kernel
theorem dX0_placeOfAnchor_9 : decode cX0_placeOfAnchor 9 = .ok (.iload_n 2, 1) := by decide +kernel
theorem dX0_placeOfAnchor_10 : decode cX0_placeOfAnchor 10 = .ok (.iconst 1, 1) := by decide +kernel
theorem dX0_placeOfAnchor_11 : decode cX0_placeOfAnchor 11 = .ok (.iadd, 1) := by decide +kernel
theorem dX0_placeOfAnchor_12 : decode cX0_placeOfAnchor 12 = .ok (.ireturn, 1) := by decide +kernel
theorem dX0_placeOfAnchor_13 : decode cX0_placeOfAnchor 13 = .ok (.iload_n 2, 1) := by decide +kernel
theorem dX0_placeOfAnchor_14 : decode cX0_placeOfAnchor 14 = .ok (.iload_n 0, 1) := by decide +kernel
theorem dX0_placeOfAnchor_15 : decode cX0_placeOfAnchor 15 = .ok (.invokestatic 191, 3) := by decide +kernel
theorem dX0_placeOfAnchor_18 : decode cX0_placeOfAnchor 18 = .ok (.iadd, 1) := by decide +kernel
theorem dX0_placeOfAnchor_19 : decode cX0_placeOfAnchor 19 = .ok (.istore_n 3, 1) := by decide +kernel
theorem dX0_placeOfAnchor_20 : decode cX0_placeOfAnchor 20 = .ok (.iload_n 1, 1) := by decide +kernel
theorem dX0_placeOfAnchor_21 : decode cX0_placeOfAnchor 21 = .ok (.iconst 1, 1) := by decide +kernel
theorem dX0_placeOfAnchor_22 : decode cX0_placeOfAnchor 22 = .ok (.if_icmp .ne 7, 3) := by decide +kernel
theorem dX0_placeOfAnchor_25 : decode cX0_placeOfAnchor 25 = .ok (.iload_n 3, 1) := by decide +kernel
theorem dX0_placeOfAnchor_26 : decode cX0_placeOfAnchor 26 = .ok (.goto 7, 3) := by decide +kernel
theorem dX0_placeOfAnchor_29 : decode cX0_placeOfAnchor 29 = .ok (.iload_n 3, 1) := by decide +kernel
theorem dX0_placeOfAnchor_30 : decode cX0_placeOfAnchor 30 = .ok (.bipush 8, 2) := by decide +kernel
theorem dX0_placeOfAnchor_32 : decode cX0_placeOfAnchor 32 = .ok (.iadd, 1) := by decide +kernel
theorem dX0_placeOfAnchor_33 : decode cX0_placeOfAnchor 33 = .ok (.ireturn, 1) := by decide +kernel
set_option maxRecDepth 20000 in
theorem ggX0_isBehindIdes_X0_monthOfPlace : GoodIn wsX0_isBehindIdes wsX0_monthOfPlace := goodIn_r _ [4, 5, 6, 3, 7] (by decide +kernel) (by decide +kernel)
set_option maxRecDepth 20000 in
theorem gX0_isBehindIdes_X0_monthOfPlace : GoodIn wsX0_isBehindIdes (va_wsS RX0 56 yX0_monthOfPlace wsX0_monthOfPlace) := goodIn_app (goodIn_of _ (by decide +kernel)) ggX0_isBehindIdes_X0_monthOfPlace
set_option maxRecDepth 20000 in
theorem ggX0_isBehindIdes_X0_placeOfAnchor : GoodIn wsX0_isBehindIdes wsX0_placeOfAnchor := goodIn_r _ [10, 11, 12, 3, 13, 5, 6, 7, 14, 15, 16] (by decide +kernel) (by decide +kernel)
set_option maxRecDepth 20000 in
theorem gX0_isBehindIdes_X0_placeOfAnchor : GoodIn wsX0_isBehindIdes (va_wsS RX0 23 yX0_placeOfAnchor wsX0_placeOfAnchor) := goodIn_app (goodIn_of _ (by decide +kernel)) ggX0_isBehindIdes_X0_placeOfAnchor
theorem dX0_isBehindIdes_0 : decode cX0_isBehindIdes 0 = .ok (.iload_n 0, 1) := by decide +kernel
theorem dX0_isBehindIdes_1 : decode cX0_isBehindIdes 1 = .ok (.iload_n 0, 1) := by decide +kernel
theorem dX0_isBehindIdes_2 : decode cX0_isBehindIdes 2 = .ok (.invokestatic 56, 3) := by decide +kernel
theorem dX0_isBehindIdes_5 : decode cX0_isBehindIdes 5 = .ok (.iconst 2, 1) := by decide +kernel
theorem dX0_isBehindIdes_6 : decode cX0_isBehindIdes 6 = .ok (.invokestatic 23, 3) := by decide +kernel
theorem dX0_isBehindIdes_9 : decode cX0_isBehindIdes 9 = .ok (.if_icmp .le 7, 3) := by decide +kernel
theorem dX0_isBehindIdes_12 : decode cX0_isBehindIdes 12 = .ok (.iconst 1, 1) := by decide +kernel
theorem dX0_isBehindIdes_13 : decode cX0_isBehindIdes 13 = .ok (.goto 4, 3) := by decide +kernel
theorem dX0_isBehindIdes_16 : decode cX0_isBehindIdes 16 = .ok (.iconst 0, 1) := by decide +kernel
theorem dX0_isBehindIdes_17 : decode cX0_isBehindIdes 17 = .ok (.ireturn, 1) := by decide +kernel
set_option maxRecDepth 20000 in
theorem ggX0_anchorOfPlace_X0_monthOfPlace : GoodIn wsX0_anchorOfPlace wsX0_monthOfPlace := goodIn_r _ [4, 5, 6, 3, 7] (by decide +kernel) (by decide +kernel)
set_option maxRecDepth 20000 in
theorem gX0_anchorOfPlace_X0_monthOfPlace : GoodIn wsX0_anchorOfPlace (va_wsS RX0 56 yX0_monthOfPlace wsX0_monthOfPlace) := goodIn_app (goodIn_of _ (by decide +kernel)) ggX0_anchorOfPlace_X0_monthOfPlace
set_option maxRecDepth 20000 in
theorem ggX0_anchorOfPlace_X0_placeOfAnchor : GoodIn wsX0_anchorOfPlace wsX0_placeOfAnchor := goodIn_r _ [10, 11, 12, 3, 13, 5, 6, 7, 14, 15, 16] (by decide +kernel) (by decide +kernel)
set_option maxRecDepth 20000 in
theorem gX0_anchorOfPlace_X0_placeOfAnchor : GoodIn wsX0_anchorOfPlace (va_wsS RX0 23 yX0_placeOfAnchor wsX0_placeOfAnchor) := goodIn_app (goodIn_of _ (by decide +kernel)) ggX0_anchorOfPlace_X0_placeOfAnchor
set_option maxRecDepth 20000 in
theorem ggX0_anchorOfPlace_X0_isBehindIdes : GoodIn wsX0_anchorOfPlace wsX0_isBehindIdes := goodIn_r _ [19, 1, 2, 3, 4, 5, 6, 7, 8, 9, 10, 11, 12, 13, 14, 15, 16] (by decide +kernel) (by decide +kernel)
set_option maxRecDepth 20000 in
theorem gX0_anchorOfPlace_X0_isBehindIdes : GoodIn wsX0_anchorOfPlace (va_wsS RX0 62 yX0_isBehindIdes wsX0_isBehindIdes) := goodIn_app (goodIn_of _ (by decide +kernel)) ggX0_anchorOfPlace_X0_isBehindIdes
theorem dX0_anchorOfPlace_0 : decode cX0_anchorOfPlace 0 = .ok (.iload_n 0, 1) := by decide +kernel
theorem dX0_anchorOfPlace_1 : decode cX0_anchorOfPlace 1 = .ok (.invokestatic 56, 3) := by decide +kernel
theorem dX0_anchorOfPlace_4 : decode cX0_anchorOfPlace 4 = .ok (.istore_n 1, 1) := by decide +kernel
theorem dX0_anchorOfPlace_5 : decode cX0_anchorOfPlace 5 = .ok (.iload_n 0, 1) := by decide +kernel
theorem dX0_anchorOfPlace_6 : decode cX0_anchorOfPlace 6 = .ok (.iload_n 1, 1) := by decide +kernel
theorem dX0_anchorOfPlace_7 : decode cX0_anchorOfPlace 7 = .ok (.iconst 0, 1) := by decide +kernel
theorem dX0_anchorOfPlace_8 : decode cX0_anchorOfPlace 8 = .ok (.invokestatic 23, 3) := by decide +kernel
theorem dX0_anchorOfPlace_11 : decode cX0_anchorOfPlace 11 = .ok (.if_icmp .eq 10, 3) := by decide +kernel
theorem dX0_anchorOfPlace_14 : decode cX0_anchorOfPlace 14 = .ok (.iload_n 0, 1) := by decide +kernel
theorem dX0_anchorOfPlace_15 : decode cX0_anchorOfPlace 15 = .ok (.invokestatic 62, 3) := by decide +kernel
theorem dX0_anchorOfPlace_18 : decode cX0_anchorOfPlace 18 = .ok (.ifCond .eq 5, 3) := by decide +kernel
theorem dX0_anchorOfPlace_21 : decode cX0_anchorOfPlace 21 = .ok (.iconst 0, 1) := by decide +kernel
theorem dX0_anchorOfPlace_22 : decode cX0_anchorOfPlace 22 = .ok (.ireturn, 1) := by decide +kernel
theorem dX0_anchorOfPlace_23 : decode cX0_anchorOfPlace 23 = .ok (.iload_n 0, 1) := by decide +kernel
theorem dX0_anchorOfPlace_24 : decode cX0_anchorOfPlace 24 = .ok (.iload_n 1, 1) := by decide +kernel
theorem dX0_anchorOfPlace_25 : decode cX0_anchorOfPlace 25 = .ok (.iconst 1, 1) := by decide +kernel
theorem dX0_anchorOfPlace_26 : decode cX0_anchorOfPlace 26 = .ok (.invokestatic 23, 3) := by decide +kernel
theorem dX0_anchorOfPlace_29 : decode cX0_anchorOfPlace 29 = .ok (.if_icmp .gt 7, 3) := by decide +kernel
theorem dX0_anchorOfPlace_32 : decode cX0_anchorOfPlace 32 = .ok (.iconst 1, 1) := by decide +kernel
theorem dX0_anchorOfPlace_33 : decode cX0_anchorOfPlace 33 = .ok (.goto 4, 3) := by decide +kernel
theorem dX0_anchorOfPlace_36 : decode cX0_anchorOfPlace 36 = .ok (.iconst 2, 1) := by decide +kernel
theorem dX0_anchorOfPlace_37 : decode cX0_anchorOfPlace 37 = .ok (.ireturn, 1) := by decide +kernel
set_option maxRecDepth 20000 in
theorem ggX0_greatestCountTo_X0_nonesDayOf : GoodIn wsX0_greatestCountTo wsX0_nonesDayOf := goodIn_r _ [4] (by decide +kernel) (by decide +kernel)
set_option maxRecDepth 20000 in
theorem gX0_greatestCountTo_X0_nonesDayOf : GoodIn wsX0_greatestCountTo (va_wsS RX0 191 yX0_nonesDayOf wsX0_nonesDayOf) := goodIn_app (goodIn_of _ (by decide +kernel)) ggX0_greatestCountTo_X0_nonesDayOf
set_option maxRecDepth 20000 in
theorem ggX0_greatestCountTo_X0_commonLengthOf : GoodIn wsX0_greatestCountTo wsX0_commonLengthOf := goodIn_r _ [7] (by decide +kernel) (by decide +kernel)
set_option maxRecDepth 20000 in
theorem gX0_greatestCountTo_X0_commonLengthOf : GoodIn wsX0_greatestCountTo (va_wsS RX0 182 yX0_commonLengthOf wsX0_commonLengthOf) := goodIn_app (goodIn_of _ (by decide +kernel)) ggX0_greatestCountTo_X0_commonLengthOf
theorem dX0_greatestCountTo_0 : decode cX0_greatestCountTo 0 = .ok (.iload_n 1, 1) := by decide +kernel
theorem dX0_greatestCountTo_1 : decode cX0_greatestCountTo 1 = .ok (.iconst 2, 1) := by decide +kernel
theorem dX0_greatestCountTo_2 : decode cX0_greatestCountTo 2 = .ok (.if_icmp .ne 6, 3) := by decide +kernel
theorem dX0_greatestCountTo_5 : decode cX0_greatestCountTo 5 = .ok (.bipush 8, 2) := by decide +kernel
theorem dX0_greatestCountTo_7 : decode cX0_greatestCountTo 7 = .ok (.ireturn, 1) := by decide +kernel
theorem dX0_greatestCountTo_8 : decode cX0_greatestCountTo 8 = .ok (.iload_n 1, 1) := by decide +kernel
theorem dX0_greatestCountTo_9 : decode cX0_greatestCountTo 9 = .ok (.iconst 1, 1) := by decide +kernel
theorem dX0_greatestCountTo_10 : decode cX0_greatestCountTo 10 = .ok (.if_icmp .ne 10, 3) := by decide +kernel
theorem dX0_greatestCountTo_13 : decode cX0_greatestCountTo 13 = .ok (.iload_n 0, 1) := by decide +kernel
theorem dX0_greatestCountTo_14 : decode cX0_greatestCountTo 14 = .ok (.invokestatic 191, 3) := by decide +kernel
theorem dX0_greatestCountTo_17 : decode cX0_greatestCountTo 17 = .ok (.iconst 1, 1) := by decide +kernel
theorem dX0_greatestCountTo_18 : decode cX0_greatestCountTo 18 = .ok (.isub, 1) := by decide +kernel
theorem dX0_greatestCountTo_19 : decode cX0_greatestCountTo 19 = .ok (.ireturn, 1) := by decide +kernel
theorem dX0_greatestCountTo_20 : decode cX0_greatestCountTo 20 = .ok (.iload_n 0, 1) := by decide +kernel
theorem dX0_greatestCountTo_21 : decode cX0_greatestCountTo 21 = .ok (.iconst 1, 1) := by decide +kernel
theorem dX0_greatestCountTo_22 : decode cX0_greatestCountTo 22 = .ok (.if_icmp .ne 8, 3) := by decide +kernel
theorem dX0_greatestCountTo_25 : decode cX0_greatestCountTo 25 = .ok (.bipush 12, 2) := by decide +kernel
theorem dX0_greatestCountTo_27 : decode cX0_greatestCountTo 27 = .ok (.goto 6, 3) := by decide +kernel
theorem dX0_greatestCountTo_30 : decode cX0_greatestCountTo 30 = .ok (.iload_n 0, 1) := by decide +kernel
theorem dX0_greatestCountTo_31 : decode cX0_greatestCountTo 31 = .ok (.iconst 1, 1) := by decide +kernel
theorem dX0_greatestCountTo_32 : decode cX0_greatestCountTo 32 = .ok (.isub, 1) := by decide +kernel
theorem dX0_greatestCountTo_33 : decode cX0_greatestCountTo 33 = .ok (.istore_n 2, 1) := by decide +kernel
theorem dX0_greatestCountTo_34 : decode cX0_greatestCountTo 34 = .ok (.iload_n 2, 1) := by decide +kernel
theorem dX0_greatestCountTo_35 : decode cX0_greatestCountTo 35 = .ok (.invokestatic 191, 3) := by decide +kernel
theorem dX0_greatestCountTo_38 : decode cX0_greatestCountTo 38 = .ok (.bipush 8, 2) := by decide +kernel
theorem dX0_greatestCountTo_40 : decode cX0_greatestCountTo 40 = .ok (.iadd, 1) := by decide +kernel
theorem dX0_greatestCountTo_41 : decode cX0_greatestCountTo 41 = .ok (.istore_n 3, 1) := by decide +kernel
theorem dX0_greatestCountTo_42 : decode cX0_greatestCountTo 42 = .ok (.iload_n 2, 1) := by decide +kernel
theorem dX0_greatestCountTo_43 : decode cX0_greatestCountTo 43 = .ok (.invokestatic 182, 3) := by decide +kernel
theorem dX0_greatestCountTo_46 : decode cX0_greatestCountTo 46 = .ok (.iload_n 3, 1) := by decide +kernel
theorem dX0_greatestCountTo_47 : decode cX0_greatestCountTo 47 = .ok (.isub, 1) := by decide +kernel
theorem dX0_greatestCountTo_48 : decode cX0_greatestCountTo 48 = .ok (.iconst 1, 1) := by decide +kernel
theorem dX0_greatestCountTo_49 : decode cX0_greatestCountTo 49 = .ok (.iadd, 1) := by decide +kernel
theorem dX0_greatestCountTo_50 : decode cX0_greatestCountTo 50 = .ok (.ireturn, 1) := by decide +kernel
set_option maxRecDepth 20000 in
theorem ggX0_isToldAsDoubled_X0_isLeap : GoodIn wsX0_isToldAsDoubled wsX0_isLeap := goodIn_r _ [4] (by decide +kernel) (by decide +kernel)
set_option maxRecDepth 20000 in
theorem gX0_isToldAsDoubled_X0_isLeap : GoodIn wsX0_isToldAsDoubled (va_wsS RX0 179 yX0_isLeap wsX0_isLeap) := goodIn_app (goodIn_of _ (by decide +kernel)) ggX0_isToldAsDoubled_X0_isLeap
theorem dX0_isToldAsDoubled_0 : decode cX0_isToldAsDoubled 0 = .ok (.iload_n 0, 1) := by decide +kernel
theorem dX0_isToldAsDoubled_1 : decode cX0_isToldAsDoubled 1 = .ok (.invokestatic 179, 3) := by decide +kernel
theorem dX0_isToldAsDoubled_4 : decode cX0_isToldAsDoubled 4 = .ok (.ifCond .eq 22, 3) := by decide +kernel
theorem dX0_isToldAsDoubled_7 : decode cX0_isToldAsDoubled 7 = .ok (.iload_n 1, 1) := by decide +kernel
theorem dX0_isToldAsDoubled_8 : decode cX0_isToldAsDoubled 8 = .ok (.iconst 3, 1) := by decide +kernel
theorem dX0_isToldAsDoubled_9 : decode cX0_isToldAsDoubled 9 = .ok (.if_icmp .ne 17, 3) := by decide +kernel
theorem dX0_isToldAsDoubled_12 : decode cX0_isToldAsDoubled 12 = .ok (.iload_n 2, 1) := by decide +kernel
theorem dX0_isToldAsDoubled_13 : decode cX0_isToldAsDoubled 13 = .ok (.ifCond .ne 13, 3) := by decide +kernel
theorem dX0_isToldAsDoubled_16 : decode cX0_isToldAsDoubled 16 = .ok (.iload_n 3, 1) := by decide +kernel
theorem dX0_isToldAsDoubled_17 : decode cX0_isToldAsDoubled 17 = .ok (.bipush 6, 2) := by decide +kernel
theorem dX0_isToldAsDoubled_19 : decode cX0_isToldAsDoubled 19 = .ok (.if_icmp .ne 7, 3) := by decide +kernel
theorem dX0_isToldAsDoubled_22 : decode cX0_isToldAsDoubled 22 = .ok (.iconst 1, 1) := by decide +kernel
theorem dX0_isToldAsDoubled_23 : decode cX0_isToldAsDoubled 23 = .ok (.goto 4, 3) := by decide +kernel
theorem dX0_isToldAsDoubled_26 : decode cX0_isToldAsDoubled 26 = .ok (.iconst 0, 1) := by decide +kernel
theorem dX0_isToldAsDoubled_27 : decode cX0_isToldAsDoubled 27 = .ok (.ireturn, 1) := by decide +kernel
set_option maxRecDepth 20000 in
theorem ggX0_eightLetterAt_X0_placeAt : GoodIn wsX0_eightLetterAt wsX0_placeAt := goodIn_r _ [4, 5, 6, 3, 7, 8, 9, 10] (by decide +kernel) (by decide +kernel)
set_option maxRecDepth 20000 in
theorem gX0_eightLetterAt_X0_placeAt : GoodIn wsX0_eightLetterAt (va_wsS RX0 53 yX0_placeAt wsX0_placeAt) := goodIn_app (goodIn_of _ (by decide +kernel)) ggX0_eightLetterAt_X0_placeAt
theorem dX0_eightLetterAt_0 : decode cX0_eightLetterAt 0 = .ok (.iload_n 0, 1) := by decide +kernel
theorem dX0_eightLetterAt_1 : decode cX0_eightLetterAt 1 = .ok (.invokestatic 53, 3) := by decide +kernel
theorem dX0_eightLetterAt_4 : decode cX0_eightLetterAt 4 = .ok (.iconst 1, 1) := by decide +kernel
theorem dX0_eightLetterAt_5 : decode cX0_eightLetterAt 5 = .ok (.isub, 1) := by decide +kernel
theorem dX0_eightLetterAt_6 : decode cX0_eightLetterAt 6 = .ok (.bipush 8, 2) := by decide +kernel
theorem dX0_eightLetterAt_8 : decode cX0_eightLetterAt 8 = .ok (.irem, 1) := by decide +kernel
theorem dX0_eightLetterAt_9 : decode cX0_eightLetterAt 9 = .ok (.ireturn, 1) := by decide +kernel
set_option maxRecDepth 20000 in
theorem ggX0_sevenLetterAt_X0_placeAt : GoodIn wsX0_sevenLetterAt wsX0_placeAt := goodIn_r _ [4, 5, 6, 3, 7, 8, 9, 10] (by decide +kernel) (by decide +kernel)
set_option maxRecDepth 20000 in
theorem gX0_sevenLetterAt_X0_placeAt : GoodIn wsX0_sevenLetterAt (va_wsS RX0 53 yX0_placeAt wsX0_placeAt) := goodIn_app (goodIn_of _ (by decide +kernel)) ggX0_sevenLetterAt_X0_placeAt
theorem dX0_sevenLetterAt_0 : decode cX0_sevenLetterAt 0 = .ok (.iload_n 0, 1) := by decide +kernel
theorem dX0_sevenLetterAt_1 : decode cX0_sevenLetterAt 1 = .ok (.invokestatic 53, 3) := by decide +kernel
theorem dX0_sevenLetterAt_4 : decode cX0_sevenLetterAt 4 = .ok (.iconst 1, 1) := by decide +kernel
theorem dX0_sevenLetterAt_5 : decode cX0_sevenLetterAt 5 = .ok (.isub, 1) := by decide +kernel
theorem dX0_sevenLetterAt_6 : decode cX0_sevenLetterAt 6 = .ok (.bipush 7, 2) := by decide +kernel
theorem dX0_sevenLetterAt_8 : decode cX0_sevenLetterAt 8 = .ok (.irem, 1) := by decide +kernel
theorem dX0_sevenLetterAt_9 : decode cX0_sevenLetterAt 9 = .ok (.ireturn, 1) := by decide +kernel
theorem dX0_isMarketAt_0 : decode cX0_isMarketAt 0 = .ok (.iload_n 1, 1) := by decide +kernel
theorem dX0_isMarketAt_1 : decode cX0_isMarketAt 1 = .ok (.bipush 8, 2) := by decide +kernel
theorem dX0_isMarketAt_3 : decode cX0_isMarketAt 3 = .ok (.irem, 1) := by decide +kernel
theorem dX0_isMarketAt_4 : decode cX0_isMarketAt 4 = .ok (.aload_n 0, 1) := by decide +kernel
theorem dX0_isMarketAt_5 : decode cX0_isMarketAt 5 = .ok (.getfield 19, 3) := by decide +kernel
theorem dX0_isMarketAt_8 : decode cX0_isMarketAt 8 = .ok (.if_icmp .ne 7, 3) := by decide +kernel
theorem dX0_isMarketAt_11 : decode cX0_isMarketAt 11 = .ok (.iconst 1, 1) := by decide +kernel
theorem dX0_isMarketAt_12 : decode cX0_isMarketAt 12 = .ok (.goto 4, 3) := by decide +kernel
theorem dX0_isMarketAt_15 : decode cX0_isMarketAt 15 = .ok (.iconst 0, 1) := by decide +kernel
theorem dX0_isMarketAt_16 : decode cX0_isMarketAt 16 = .ok (.ireturn, 1) := by decide +kernel
theorem dX0_isSlot_0 : decode cX0_isSlot 0 = .ok (.iload_n 0, 1) := by decide +kernel
theorem dX0_isSlot_1 : decode cX0_isSlot 1 = .ok (.ifCond .lt 13, 3) := by decide +kernel
theorem dX0_isSlot_4 : decode cX0_isSlot 4 = .ok (.iload_n 0, 1) := by decide +kernel
theorem dX0_isSlot_5 : decode cX0_isSlot 5 = .ok (.bipush 60, 2) := by decide +kernel
theorem dX0_isSlot_7 : decode cX0_isSlot 7 = .ok (.if_icmp .ge 7, 3) := by decide +kernel
theorem dX0_isSlot_10 : decode cX0_isSlot 10 = .ok (.iconst 1, 1) := by decide +kernel
theorem dX0_isSlot_11 : decode cX0_isSlot 11 = .ok (.goto 4, 3) := by decide +kernel
theorem dX0_isSlot_14 : decode cX0_isSlot 14 = .ok (.iconst 0, 1) := by decide +kernel
theorem dX0_isSlot_15 : decode cX0_isSlot 15 = .ok (.ireturn, 1) := by decide +kernel
theorem dX0_slotOf_0 : decode cX0_slotOf 0 = .ok (.iconst 0, 1) := by decide +kernel
theorem dX0_slotOf_1 : decode cX0_slotOf 1 = .ok (.istore_n 2, 1) := by decide +kernel
theorem dX0_slotOf_2 : decode cX0_slotOf 2 = .ok (.iload_n 2, 1) := by decide +kernel
theorem dX0_slotOf_3 : decode cX0_slotOf 3 = .ok (.bipush 60, 2) := by decide +kernel
theorem dX0_slotOf_5 : decode cX0_slotOf 5 = .ok (.if_icmp .ge 21, 3) := by decide +kernel
theorem dX0_slotOf_8 : decode cX0_slotOf 8 = .ok (.aload_n 0, 1) := by decide +kernel
theorem dX0_slotOf_9 : decode cX0_slotOf 9 = .ok (.getfield 13, 3) := by decide +kernel
theorem dX0_slotOf_12 : decode cX0_slotOf 12 = .ok (.iload_n 2, 1) := by decide +kernel
theorem dX0_slotOf_13 : decode cX0_slotOf 13 = .ok (.iaload, 1) := by decide +kernel
theorem dX0_slotOf_14 : decode cX0_slotOf 14 = .ok (.iload_n 1, 1) := by decide +kernel
theorem dX0_slotOf_15 : decode cX0_slotOf 15 = .ok (.if_icmp .ne 5, 3) := by decide +kernel
theorem dX0_slotOf_18 : decode cX0_slotOf 18 = .ok (.iload_n 2, 1) := by decide +kernel
theorem dX0_slotOf_19 : decode cX0_slotOf 19 = .ok (.ireturn, 1) := by decide +kernel
theorem dX0_slotOf_20 : decode cX0_slotOf 20 = .ok (.iinc 2 1, 3) := by decide +kernel
theorem dX0_slotOf_23 : decode cX0_slotOf 23 = .ok (.goto (-21), 3) := by decide +kernel
theorem dX0_slotOf_26 : decode cX0_slotOf 26 = .ok (.iconst (-1), 1) := by decide +kernel
theorem dX0_slotOf_27 : decode cX0_slotOf 27 = .ok (.ireturn, 1) := by decide +kernel
theorem dX0_countConsulYears_0 : decode cX0_countConsulYears 0 = .ok (.iconst 0, 1) := by decide +kernel
theorem dX0_countConsulYears_1 : decode cX0_countConsulYears 1 = .ok (.istore_n 1, 1) := by decide +kernel
theorem dX0_countConsulYears_2 : decode cX0_countConsulYears 2 = .ok (.iconst 0, 1) := by decide +kernel
theorem dX0_countConsulYears_3 : decode cX0_countConsulYears 3 = .ok (.istore_n 2, 1) := by decide +kernel
theorem dX0_countConsulYears_4 : decode cX0_countConsulYears 4 = .ok (.iload_n 2, 1) := by decide +kernel
theorem dX0_countConsulYears_5 : decode cX0_countConsulYears 5 = .ok (.bipush 60, 2) := by decide +kernel
theorem dX0_countConsulYears_7 : decode cX0_countConsulYears 7 = .ok (.if_icmp .ge 21, 3) := by decide +kernel
theorem dX0_countConsulYears_10 : decode cX0_countConsulYears 10 = .ok (.aload_n 0, 1) := by decide +kernel
theorem dX0_countConsulYears_11 : decode cX0_countConsulYears 11 = .ok (.getfield 13, 3) := by decide +kernel
theorem dX0_countConsulYears_14 : decode cX0_countConsulYears 14 = .ok (.iload_n 2, 1) := by decide +kernel
theorem dX0_countConsulYears_15 : decode cX0_countConsulYears 15 = .ok (.iaload, 1) := by decide +kernel
theorem dX0_countConsulYears_16 : decode cX0_countConsulYears 16 = .ok (.ifCond .eq 6, 3) := by decide +kernel
theorem dX0_countConsulYears_19 : decode cX0_countConsulYears 19 = .ok (.iinc 1 1, 3) := by decide +kernel
theorem dX0_countConsulYears_22 : decode cX0_countConsulYears 22 = .ok (.iinc 2 1, 3) := by decide +kernel
theorem dX0_countConsulYears_25 : decode cX0_countConsulYears 25 = .ok (.goto (-21), 3) := by decide +kernel
theorem dX0_countConsulYears_28 : decode cX0_countConsulYears 28 = .ok (.iload_n 1, 1) := by decide +kernel
theorem dX0_countConsulYears_29 : decode cX0_countConsulYears 29 = .ok (.ireturn, 1) := by decide +kernel
set_option maxRecDepth 20000 in
theorem ggX0_nextYearOfPair_X0_isPair : GoodIn wsX0_nextYearOfPair wsX0_isPair := goodIn_r _ [6] (by decide +kernel) (by decide +kernel)
set_option maxRecDepth 20000 in
theorem gX0_nextYearOfPair_X0_isPair : GoodIn wsX0_nextYearOfPair (va_wsS RX0 194 yX0_isPair wsX0_isPair) := goodIn_app (goodIn_of _ (by decide +kernel)) ggX0_nextYearOfPair_X0_isPair
theorem dX0_nextYearOfPair_0 : decode cX0_nextYearOfPair 0 = .ok (.iconst (-1), 1) := by decide +kernel
theorem dX0_nextYearOfPair_1 : decode cX0_nextYearOfPair 1 = .ok (.istore 4, 2) := by decide +kernel
theorem dX0_nextYearOfPair_3 : decode cX0_nextYearOfPair 3 = .ok (.iconst 0, 1) := by decide +kernel
theorem dX0_nextYearOfPair_4 : decode cX0_nextYearOfPair 4 = .ok (.istore 5, 2) := by decide +kernel
theorem dX0_nextYearOfPair_6 : decode cX0_nextYearOfPair 6 = .ok (.iload 5, 2) := by decide +kernel
theorem dX0_nextYearOfPair_8 : decode cX0_nextYearOfPair 8 = .ok (.bipush 60, 2) := by decide +kernel
theorem dX0_nextYearOfPair_10 : decode cX0_nextYearOfPair 10 = .ok (.if_icmp .ge 68, 3) := by decide +kernel
theorem dX0_nextYearOfPair_13 : decode cX0_nextYearOfPair 13 = .ok (.aload_n 0, 1) := by decide +kernel
theorem dX0_nextYearOfPair_14 : decode cX0_nextYearOfPair 14 = .ok (.getfield 13, 3) := by decide +kernel
theorem dX0_nextYearOfPair_17 : decode cX0_nextYearOfPair 17 = .ok (.iload 5, 2) := by decide +kernel
theorem dX0_nextYearOfPair_19 : decode cX0_nextYearOfPair 19 = .ok (.iaload, 1) := by decide +kernel
theorem dX0_nextYearOfPair_20 : decode cX0_nextYearOfPair 20 = .ok (.istore 6, 2) := by decide +kernel
theorem dX0_nextYearOfPair_22 : decode cX0_nextYearOfPair 22 = .ok (.iload 4, 2) := by decide +kernel
theorem dX0_nextYearOfPair_24 : decode cX0_nextYearOfPair 24 = .ok (.iconst (-1), 1) := by decide +kernel
theorem dX0_nextYearOfPair_25 : decode cX0_nextYearOfPair 25 = .ok (.if_icmp .eq 10, 3) := by decide +kernel
theorem dX0_nextYearOfPair_28 : decode cX0_nextYearOfPair 28 = .ok (.iload 6, 2) := by decide +kernel
theorem dX0_nextYearOfPair_30 : decode cX0_nextYearOfPair 30 = .ok (.iload 4, 2) := by decide +kernel
theorem dX0_nextYearOfPair_32 : decode cX0_nextYearOfPair 32 = .ok (.if_icmp .ge 7, 3) := by decide +kernel
theorem dX0_nextYearOfPair_35 : decode cX0_nextYearOfPair 35 = .ok (.iconst 1, 1) := by decide +kernel
theorem dX0_nextYearOfPair_36 : decode cX0_nextYearOfPair 36 = .ok (.goto 4, 3) := by decide +kernel
theorem dX0_nextYearOfPair_39 : decode cX0_nextYearOfPair 39 = .ok (.iconst 0, 1) := by decide +kernel
theorem dX0_nextYearOfPair_40 : decode cX0_nextYearOfPair 40 = .ok (.istore 7, 2) := by decide +kernel
theorem dX0_nextYearOfPair_42 : decode cX0_nextYearOfPair 42 = .ok (.iload 6, 2) := by decide +kernel
theorem dX0_nextYearOfPair_44 : decode cX0_nextYearOfPair 44 = .ok (.iload_n 3, 1) := by decide +kernel
theorem dX0_nextYearOfPair_45 : decode cX0_nextYearOfPair 45 = .ok (.if_icmp .le 27, 3) := by decide +kernel
theorem dX0_nextYearOfPair_48 : decode cX0_nextYearOfPair 48 = .ok (.iload 7, 2) := by decide +kernel
theorem dX0_nextYearOfPair_50 : decode cX0_nextYearOfPair 50 = .ok (.ifCond .eq 22, 3) := by decide +kernel
theorem dX0_nextYearOfPair_53 : decode cX0_nextYearOfPair 53 = .ok (.aload_n 0, 1) := by decide +kernel
theorem dX0_nextYearOfPair_54 : decode cX0_nextYearOfPair 54 = .ok (.getfield 16, 3) := by decide +kernel
theorem dX0_nextYearOfPair_57 : decode cX0_nextYearOfPair 57 = .ok (.iload 5, 2) := by decide +kernel
theorem dX0_nextYearOfPair_59 : decode cX0_nextYearOfPair 59 = .ok (.iaload, 1) := by decide +kernel
theorem dX0_nextYearOfPair_60 : decode cX0_nextYearOfPair 60 = .ok (.iload_n 1, 1) := by decide +kernel
theorem dX0_nextYearOfPair_61 : decode cX0_nextYearOfPair 61 = .ok (.iload_n 2, 1) := by decide +kernel
theorem dX0_nextYearOfPair_62 : decode cX0_nextYearOfPair 62 = .ok (.invokestatic 194, 3) := by decide +kernel
theorem dX0_nextYearOfPair_65 : decode cX0_nextYearOfPair 65 = .ok (.ifCond .eq 7, 3) := by decide +kernel
theorem dX0_nextYearOfPair_68 : decode cX0_nextYearOfPair 68 = .ok (.iload 6, 2) := by decide +kernel
theorem dX0_nextYearOfPair_70 : decode cX0_nextYearOfPair 70 = .ok (.istore 4, 2) := by decide +kernel
theorem dX0_nextYearOfPair_72 : decode cX0_nextYearOfPair 72 = .ok (.iinc 5 1, 3) := by decide +kernel
theorem dX0_nextYearOfPair_75 : decode cX0_nextYearOfPair 75 = .ok (.goto (-69), 3) := by decide +kernel
theorem dX0_nextYearOfPair_78 : decode cX0_nextYearOfPair 78 = .ok (.iload 4, 2) := by decide +kernel
theorem dX0_nextYearOfPair_80 : decode cX0_nextYearOfPair 80 = .ok (.ireturn, 1) := by decide +kernel
theorem dX0_isPair_0 : decode cX0_isPair 0 = .ok (.iload_n 0, 1) := by decide +kernel
theorem dX0_isPair_1 : decode cX0_isPair 1 = .ok (.sipush 1000, 3) := by decide +kernel
theorem dX0_isPair_4 : decode cX0_isPair 4 = .ok (.idiv, 1) := by decide +kernel
theorem dX0_isPair_5 : decode cX0_isPair 5 = .ok (.istore_n 3, 1) := by decide +kernel
theorem dX0_isPair_6 : decode cX0_isPair 6 = .ok (.iload_n 0, 1) := by decide +kernel
theorem dX0_isPair_7 : decode cX0_isPair 7 = .ok (.sipush 1000, 3) := by decide +kernel
theorem dX0_isPair_10 : decode cX0_isPair 10 = .ok (.irem, 1) := by decide +kernel
theorem dX0_isPair_11 : decode cX0_isPair 11 = .ok (.istore 4, 2) := by decide +kernel
theorem dX0_isPair_13 : decode cX0_isPair 13 = .ok (.iload_n 3, 1) := by decide +kernel
theorem dX0_isPair_14 : decode cX0_isPair 14 = .ok (.iload_n 1, 1) := by decide +kernel
theorem dX0_isPair_15 : decode cX0_isPair 15 = .ok (.if_icmp .ne 9, 3) := by decide +kernel
theorem dX0_isPair_18 : decode cX0_isPair 18 = .ok (.iload 4, 2) := by decide +kernel
theorem dX0_isPair_20 : decode cX0_isPair 20 = .ok (.iload_n 2, 1) := by decide +kernel
theorem dX0_isPair_21 : decode cX0_isPair 21 = .ok (.if_icmp .eq 14, 3) := by decide +kernel
theorem dX0_isPair_24 : decode cX0_isPair 24 = .ok (.iload_n 3, 1) := by decide +kernel
theorem dX0_isPair_25 : decode cX0_isPair 25 = .ok (.iload_n 2, 1) := by decide +kernel
theorem dX0_isPair_26 : decode cX0_isPair 26 = .ok (.if_icmp .ne 13, 3) := by decide +kernel
theorem dX0_isPair_29 : decode cX0_isPair 29 = .ok (.iload 4, 2) := by decide +kernel
theorem dX0_isPair_31 : decode cX0_isPair 31 = .ok (.iload_n 1, 1) := by decide +kernel
theorem dX0_isPair_32 : decode cX0_isPair 32 = .ok (.if_icmp .ne 7, 3) := by decide +kernel
theorem dX0_isPair_35 : decode cX0_isPair 35 = .ok (.iconst 1, 1) := by decide +kernel
theorem dX0_isPair_36 : decode cX0_isPair 36 = .ok (.goto 4, 3) := by decide +kernel
theorem dX0_isPair_39 : decode cX0_isPair 39 = .ok (.iconst 0, 1) := by decide +kernel
theorem dX0_isPair_40 : decode cX0_isPair 40 = .ok (.ireturn, 1) := by decide +kernel
set_option maxRecDepth 20000 in
theorem ggX0_readCharacter_X0_isPlace : GoodIn wsX0_readCharacter wsX0_isPlace := goodIn_r _ [5] (by decide +kernel) (by decide +kernel)
set_option maxRecDepth 20000 in
theorem gX0_readCharacter_X0_isPlace : GoodIn wsX0_readCharacter (va_wsS RX0 150 yX0_isPlace wsX0_isPlace) := goodIn_app (goodIn_of _ (by decide +kernel)) ggX0_readCharacter_X0_isPlace
theorem dX0_readCharacter_0 : decode cX0_readCharacter 0 = .ok (.iload_n 1, 1) := by decide +kernel
theorem dX0_readCharacter_1 : decode cX0_readCharacter 1 = .ok (.invokestatic 150, 3) := by decide +kernel
theorem dX0_readCharacter_4 : decode cX0_readCharacter 4 = .ok (.ifCond .eq 14, 3) := by decide +kernel
theorem dX0_readCharacter_7 : decode cX0_readCharacter 7 = .ok (.aload_n 0, 1) := by decide +kernel
theorem dX0_readCharacter_8 : decode cX0_readCharacter 8 = .ok (.getfield 9, 3) := by decide +kernel
theorem dX0_readCharacter_11 : decode cX0_readCharacter 11 = .ok (.iload_n 1, 1) := by decide +kernel
theorem dX0_readCharacter_12 : decode cX0_readCharacter 12 = .ok (.iconst 1, 1) := by decide +kernel
theorem dX0_readCharacter_13 : decode cX0_readCharacter 13 = .ok (.isub, 1) := by decide +kernel
theorem dX0_readCharacter_14 : decode cX0_readCharacter 14 = .ok (.iaload, 1) := by decide +kernel
theorem dX0_readCharacter_15 : decode cX0_readCharacter 15 = .ok (.goto 4, 3) := by decide +kernel
theorem dX0_readCharacter_18 : decode cX0_readCharacter 18 = .ok (.iconst (-1), 1) := by decide +kernel
theorem dX0_readCharacter_19 : decode cX0_readCharacter 19 = .ok (.ireturn, 1) := by decide +kernel
set_option maxRecDepth 20000 in
theorem ggX0_writeCharacter_X0_isPlace : GoodIn wsX0_writeCharacter wsX0_isPlace := goodIn_r _ [5] (by decide +kernel) (by decide +kernel)
set_option maxRecDepth 20000 in
theorem gX0_writeCharacter_X0_isPlace : GoodIn wsX0_writeCharacter (va_wsS RX0 150 yX0_isPlace wsX0_isPlace) := goodIn_app (goodIn_of _ (by decide +kernel)) ggX0_writeCharacter_X0_isPlace
theorem dX0_writeCharacter_0 : decode cX0_writeCharacter 0 = .ok (.iload_n 1, 1) := by decide +kernel
theorem dX0_writeCharacter_1 : decode cX0_writeCharacter 1 = .ok (.invokestatic 150, 3) := by decide +kernel
theorem dX0_writeCharacter_4 : decode cX0_writeCharacter 4 = .ok (.ifCond .eq 12, 3) := by decide +kernel
theorem dX0_writeCharacter_7 : decode cX0_writeCharacter 7 = .ok (.aload_n 0, 1) := by decide +kernel
theorem dX0_writeCharacter_8 : decode cX0_writeCharacter 8 = .ok (.getfield 9, 3) := by decide +kernel
theorem dX0_writeCharacter_11 : decode cX0_writeCharacter 11 = .ok (.iload_n 1, 1) := by decide +kernel
theorem dX0_writeCharacter_12 : decode cX0_writeCharacter 12 = .ok (.iconst 1, 1) := by decide +kernel
theorem dX0_writeCharacter_13 : decode cX0_writeCharacter 13 = .ok (.isub, 1) := by decide +kernel
theorem dX0_writeCharacter_14 : decode cX0_writeCharacter 14 = .ok (.iload_n 2, 1) := by decide +kernel
theorem dX0_writeCharacter_15 : decode cX0_writeCharacter 15 = .ok (.iastore, 1) := by decide +kernel
theorem dX0_writeCharacter_16 : decode cX0_writeCharacter 16 = .ok (.return_, 1) := by decide +kernel
set_option maxRecDepth 20000 in
theorem ggX0_isVotingDay_X0_placeAt : GoodIn wsX0_isVotingDay wsX0_placeAt := goodIn_r _ [4, 5, 6, 3, 7, 8, 9, 10] (by decide +kernel) (by decide +kernel)
set_option maxRecDepth 20000 in
theorem gX0_isVotingDay_X0_placeAt : GoodIn wsX0_isVotingDay (va_wsS RX0 53 yX0_placeAt wsX0_placeAt) := goodIn_app (goodIn_of _ (by decide +kernel)) ggX0_isVotingDay_X0_placeAt
set_option maxRecDepth 20000 in
theorem ggX0_isVotingDay_X0_readCharacter : GoodIn wsX0_isVotingDay wsX0_readCharacter := goodIn_r _ [14, 15, 16, 17, 3, 18, 24, 25, 26, 27] (by decide +kernel) (by decide +kernel)
set_option maxRecDepth 20000 in
theorem gX0_isVotingDay_X0_readCharacter : GoodIn wsX0_isVotingDay (wsV RX0 160 RX0 yX0_readCharacter wsX0_readCharacter) := goodIn_app (goodIn_of _ (by decide +kernel)) ggX0_isVotingDay_X0_readCharacter
set_option maxRecDepth 20000 in
theorem ggX0_isVotingDay_X0_isMarketAt : GoodIn wsX0_isVotingDay wsX0_isMarketAt := goodIn_r _ [22, 23, 24, 25, 26, 27] (by decide +kernel) (by decide +kernel)
set_option maxRecDepth 20000 in
theorem gX0_isVotingDay_X0_isMarketAt : GoodIn wsX0_isVotingDay (wsV RX0 114 RX0 yX0_isMarketAt wsX0_isMarketAt) := goodIn_app (goodIn_of _ (by decide +kernel)) ggX0_isVotingDay_X0_isMarketAt
theorem dX0_isVotingDay_0 : decode cX0_isVotingDay 0 = .ok (.aload_n 0, 1) := by decide +kernel
theorem dX0_isVotingDay_1 : decode cX0_isVotingDay 1 = .ok (.iload_n 1, 1) := by decide +kernel
theorem dX0_isVotingDay_2 : decode cX0_isVotingDay 2 = .ok (.invokestatic 53, 3) := by decide +kernel
theorem dX0_isVotingDay_5 : decode cX0_isVotingDay 5 = .ok (.invokevirtual 160, 3) := by decide +kernel
theorem dX0_isVotingDay_8 : decode cX0_isVotingDay 8 = .ok (.iconst 2, 1) := by decide +kernel
theorem dX0_isVotingDay_9 : decode cX0_isVotingDay 9 = .ok (.if_icmp .ne 15, 3) := by decide +kernel
theorem dX0_isVotingDay_12 : decode cX0_isVotingDay 12 = .ok (.aload_n 0, 1) := by decide +kernel
theorem dX0_isVotingDay_13 : decode cX0_isVotingDay 13 = .ok (.iload_n 1, 1) := by decide +kernel
theorem dX0_isVotingDay_14 : decode cX0_isVotingDay 14 = .ok (.invokevirtual 114, 3) := by decide +kernel
theorem dX0_isVotingDay_17 : decode cX0_isVotingDay 17 = .ok (.ifCond .ne 7, 3) := by decide +kernel
theorem dX0_isVotingDay_20 : decode cX0_isVotingDay 20 = .ok (.iconst 1, 1) := by decide +kernel
theorem dX0_isVotingDay_21 : decode cX0_isVotingDay 21 = .ok (.goto 4, 3) := by decide +kernel
theorem dX0_isVotingDay_24 : decode cX0_isVotingDay 24 = .ok (.iconst 0, 1) := by decide +kernel
theorem dX0_isVotingDay_25 : decode cX0_isVotingDay 25 = .ok (.ireturn, 1) := by decide +kernel
theorem dJ9_floorMod_7cf53_0 : decode cJ9_floorMod_7cf53 0 = .ok (.iload_n 0, 1) := by decide +kernel
theorem dJ9_floorMod_7cf53_1 : decode cJ9_floorMod_7cf53 1 = .ok (.iload_n 1, 1) := by decide +kernel
theorem dJ9_floorMod_7cf53_2 : decode cJ9_floorMod_7cf53 2 = .ok (.irem, 1) := by decide +kernel
theorem dJ9_floorMod_7cf53_3 : decode cJ9_floorMod_7cf53 3 = .ok (.istore_n 2, 1) := by decide +kernel
theorem dJ9_floorMod_7cf53_4 : decode cJ9_floorMod_7cf53 4 = .ok (.iload_n 0, 1) := by decide +kernel
theorem dJ9_floorMod_7cf53_5 : decode cJ9_floorMod_7cf53 5 = .ok (.iload_n 1, 1) := by decide +kernel
theorem dJ9_floorMod_7cf53_6 : decode cJ9_floorMod_7cf53 6 = .ok (.ixor, 1) := by decide +kernel
theorem dJ9_floorMod_7cf53_7 : decode cJ9_floorMod_7cf53 7 = .ok (.ifCond .ge 11, 3) := by decide +kernel
theorem dJ9_floorMod_7cf53_10 : decode cJ9_floorMod_7cf53 10 = .ok (.iload_n 2, 1) := by decide +kernel
theorem dJ9_floorMod_7cf53_11 : decode cJ9_floorMod_7cf53 11 = .ok (.ifCond .eq 7, 3) := by decide +kernel
theorem dJ9_floorMod_7cf53_14 : decode cJ9_floorMod_7cf53 14 = .ok (.iload_n 2, 1) := by decide +kernel
theorem dJ9_floorMod_7cf53_15 : decode cJ9_floorMod_7cf53 15 = .ok (.iload_n 1, 1) := by decide +kernel
theorem dJ9_floorMod_7cf53_16 : decode cJ9_floorMod_7cf53 16 = .ok (.iadd, 1) := by decide +kernel
theorem dJ9_floorMod_7cf53_17 : decode cJ9_floorMod_7cf53 17 = .ok (.ireturn, 1) := by decide +kernel
theorem dJ9_floorMod_7cf53_18 : decode cJ9_floorMod_7cf53 18 = .ok (.iload_n 2, 1) := by decide +kernel
theorem dJ9_floorMod_7cf53_19 : decode cJ9_floorMod_7cf53 19 = .ok (.ireturn, 1) := by decide +kernel
theorem dJ9_min_7cf53_0 : decode cJ9_min_7cf53 0 = .ok (.iload_n 0, 1) := by decide +kernel
theorem dJ9_min_7cf53_1 : decode cJ9_min_7cf53 1 = .ok (.iload_n 1, 1) := by decide +kernel
theorem dJ9_min_7cf53_2 : decode cJ9_min_7cf53 2 = .ok (.if_icmp .gt 7, 3) := by decide +kernel
theorem dJ9_min_7cf53_5 : decode cJ9_min_7cf53 5 = .ok (.iload_n 0, 1) := by decide +kernel
theorem dJ9_min_7cf53_6 : decode cJ9_min_7cf53 6 = .ok (.goto 4, 3) := by decide +kernel
theorem dJ9_min_7cf53_9 : decode cJ9_min_7cf53 9 = .ok (.iload_n 1, 1) := by decide +kernel
theorem dJ9_min_7cf53_10 : decode cJ9_min_7cf53 10 = .ok (.ireturn, 1) := by decide +kernel
