theorem dX1_init_0 : decode cX1_init 0 = .ok (.aload_n 0, 1) := by decide +kernel
theorem dX1_init_1 : decode cX1_init 1 = .ok (.invokespecial 1, 3) := by decide +kernel
theorem dX1_init_4 : decode cX1_init 4 = .ok (.aload_n 0, 1) := by decide +kernel
theorem dX1_init_5 : decode cX1_init 5 = .ok (.sipush 366, 3) := by decide +kernel
theorem dX1_init_8 : decode cX1_init 8 = .ok (.newarray .int, 2) := by decide +kernel
theorem dX1_init_10 : decode cX1_init 10 = .ok (.putfield 7, 3) := by decide +kernel
theorem dX1_init_13 : decode cX1_init 13 = .ok (.aload_n 0, 1) := by decide +kernel
theorem dX1_init_14 : decode cX1_init 14 = .ok (.sipush 3001, 3) := by decide +kernel
theorem dX1_init_17 : decode cX1_init 17 = .ok (.newarray .int, 2) := by decide +kernel
theorem dX1_init_19 : decode cX1_init 19 = .ok (.putfield 13, 3) := by decide +kernel
theorem dX1_init_22 : decode cX1_init 22 = .ok (.aload_n 0, 1) := by decide +kernel
theorem dX1_init_23 : decode cX1_init 23 = .ok (.sipush 3001, 3) := by decide +kernel
theorem dX1_init_26 : decode cX1_init 26 = .ok (.newarray .int, 2) := by decide +kernel
theorem dX1_init_28 : decode cX1_init 28 = .ok (.putfield 16, 3) := by decide +kernel
theorem dX1_init_31 : decode cX1_init 31 = .ok (.iconst 1, 1) := by decide +kernel
theorem dX1_init_32 : decode cX1_init 32 = .ok (.istore_n 1, 1) := by decide +kernel
theorem dX1_init_33 : decode cX1_init 33 = .ok (.iload_n 1, 1) := by decide +kernel
theorem dX1_init_34 : decode cX1_init 34 = .ok (.sipush 365, 3) := by decide +kernel
theorem dX1_init_37 : decode cX1_init 37 = .ok (.if_icmp .gt 73, 3) := by decide +kernel
theorem dX1_init_40 : decode cX1_init 40 = .ok (.aload_n 0, 1) := by decide +kernel
theorem dX1_init_41 : decode cX1_init 41 = .ok (.iload_n 1, 1) := by decide +kernel
theorem dX1_init_42 : decode cX1_init 42 = .ok (.iconst 1, 1) := by decide +kernel
theorem dX1_init_43 : decode cX1_init 43 = .ok (.isub, 1) := by decide +kernel
theorem dX1_init_44 : decode cX1_init 44 = .ok (.invokevirtual 19, 3) := by decide +kernel
theorem dX1_init_47 : decode cX1_init 47 = .ok (.aload_n 0, 1) := by decide +kernel
theorem dX1_init_48 : decode cX1_init 48 = .ok (.getfield 23, 3) := by decide +kernel
theorem dX1_init_51 : decode cX1_init 51 = .ok (.iconst 1, 1) := by decide +kernel
theorem dX1_init_52 : decode cX1_init 52 = .ok (.if_icmp .eq 31, 3) := by decide +kernel
theorem dX1_init_55 : decode cX1_init 55 = .ok (.aload_n 0, 1) := by decide +kernel
theorem dX1_init_56 : decode cX1_init 56 = .ok (.getfield 23, 3) := by decide +kernel
theorem dX1_init_59 : decode cX1_init 59 = .ok (.aload_n 0, 1) := by decide +kernel
theorem dX1_init_60 : decode cX1_init 60 = .ok (.getfield 27, 3) := by decide +kernel
theorem dX1_init_63 : decode cX1_init 63 = .ok (.invokestatic 30, 3) := by decide +kernel
theorem dX1_init_66 : decode cX1_init 66 = .ok (.if_icmp .eq 17, 3) := by decide +kernel
theorem dX1_init_69 : decode cX1_init 69 = .ok (.aload_n 0, 1) := by decide +kernel
theorem dX1_init_70 : decode cX1_init 70 = .ok (.getfield 23, 3) := by decide +kernel
theorem dX1_init_73 : decode cX1_init 73 = .ok (.aload_n 0, 1) := by decide +kernel
theorem dX1_init_74 : decode cX1_init 74 = .ok (.getfield 27, 3) := by decide +kernel
theorem dX1_init_77 : decode cX1_init 77 = .ok (.invokestatic 34, 3) := by decide +kernel
theorem dX1_init_80 : decode cX1_init 80 = .ok (.if_icmp .ne 7, 3) := by decide +kernel
theorem dX1_init_83 : decode cX1_init 83 = .ok (.iconst 1, 1) := by decide +kernel
theorem dX1_init_84 : decode cX1_init 84 = .ok (.goto 4, 3) := by decide +kernel
theorem dX1_init_87 : decode cX1_init 87 = .ok (.iconst 0, 1) := by decide +kernel
theorem dX1_init_88 : decode cX1_init 88 = .ok (.istore_n 2, 1) := by decide +kernel
theorem dX1_init_89 : decode cX1_init 89 = .ok (.aload_n 0, 1) := by decide +kernel
theorem dX1_init_90 : decode cX1_init 90 = .ok (.getfield 7, 3) := by decide +kernel
theorem dX1_init_93 : decode cX1_init 93 = .ok (.iload_n 1, 1) := by decide +kernel
theorem dX1_init_94 : decode cX1_init 94 = .ok (.iload_n 2, 1) := by decide +kernel
theorem dX1_init_95 : decode cX1_init 95 = .ok (.ifCond .eq 7, 3) := by decide +kernel
theorem dX1_init_98 : decode cX1_init 98 = .ok (.iconst 0, 1) := by decide +kernel
theorem dX1_init_99 : decode cX1_init 99 = .ok (.goto 4, 3) := by decide +kernel
theorem dX1_init_102 : decode cX1_init 102 = .ok (.iconst 2, 1) := by decide +kernel
theorem dX1_init_103 : decode cX1_init 103 = .ok (.iastore, 1) := by decide +kernel
theorem dX1_init_104 : decode cX1_init 104 = .ok (.iinc 1 1, 3) := by decide +kernel
theorem dX1_init_107 : decode cX1_init 107 = .ok (.goto (-74), 3) := by decide +kernel
theorem dX1_init_110 : decode cX1_init 110 = .ok (.return_, 1) := by decide +kernel
theorem dX1_thrown_0 : decode cX1_thrown 0 = .ok (.aload_n 0, 1) := by decide +kernel
theorem dX1_thrown_1 : decode cX1_thrown 1 = .ok (.getfield 37, 3) := by decide +kernel
theorem dX1_thrown_4 : decode cX1_thrown 4 = .ok (.ireturn, 1) := by decide +kernel
theorem dX1_isFine_0 : decode cX1_isFine 0 = .ok (.aload_n 0, 1) := by decide +kernel
theorem dX1_isFine_1 : decode cX1_isFine 1 = .ok (.iload_n 1, 1) := by decide +kernel
theorem dX1_isFine_2 : decode cX1_isFine 2 = .ok (.putfield 37, 3) := by decide +kernel
theorem dX1_isFine_5 : decode cX1_isFine 5 = .ok (.iload_n 1, 1) := by decide +kernel
theorem dX1_isFine_6 : decode cX1_isFine 6 = .ok (.ifCond .ne 7, 3) := by decide +kernel
theorem dX1_isFine_9 : decode cX1_isFine 9 = .ok (.iconst 1, 1) := by decide +kernel
theorem dX1_isFine_10 : decode cX1_isFine 10 = .ok (.goto 4, 3) := by decide +kernel
theorem dX1_isFine_13 : decode cX1_isFine 13 = .ok (.iconst 0, 1) := by decide +kernel
theorem dX1_isFine_14 : decode cX1_isFine 14 = .ok (.ireturn, 1) := by decide +kernel
theorem dX1_isIn_0 : decode cX1_isIn 0 = .ok (.iload_n 0, 1) := by decide +kernel
theorem dX1_isIn_1 : decode cX1_isIn 1 = .ok (.iload_n 1, 1) := by decide +kernel
theorem dX1_isIn_2 : decode cX1_isIn 2 = .ok (.if_icmp .lt 12, 3) := by decide +kernel
theorem dX1_isIn_5 : decode cX1_isIn 5 = .ok (.iload_n 0, 1) := by decide +kernel
theorem dX1_isIn_6 : decode cX1_isIn 6 = .ok (.iload_n 2, 1) := by decide +kernel
theorem dX1_isIn_7 : decode cX1_isIn 7 = .ok (.if_icmp .gt 7, 3) := by decide +kernel
theorem dX1_isIn_10 : decode cX1_isIn 10 = .ok (.iconst 1, 1) := by decide +kernel
theorem dX1_isIn_11 : decode cX1_isIn 11 = .ok (.goto 4, 3) := by decide +kernel
theorem dX1_isIn_14 : decode cX1_isIn 14 = .ok (.iconst 0, 1) := by decide +kernel
theorem dX1_isIn_15 : decode cX1_isIn 15 = .ok (.ireturn, 1) := by decide +kernel
set_option maxRecDepth 20000 in
theorem ggX1_isYear_X1_isIn : GoodIn wsX1_isYear wsX1_isIn := goodIn_r _ [4] (by decide +kernel) (by decide +kernel)
set_option maxRecDepth 20000 in
theorem gX1_isYear_X1_isIn : GoodIn wsX1_isYear (va_wsS RX1 40 yX1_isIn wsX1_isIn) := goodIn_app (goodIn_of _ (by decide +kernel)) ggX1_isYear_X1_isIn
theorem dX1_isYear_0 : decode cX1_isYear 0 = .ok (.iload_n 0, 1) := by decide +kernel
theorem dX1_isYear_1 : decode cX1_isYear 1 = .ok (.iconst 1, 1) := by decide +kernel
theorem dX1_isYear_2 : decode cX1_isYear 2 = .ok (.sipush 3000, 3) := by decide +kernel
theorem dX1_isYear_5 : decode cX1_isYear 5 = .ok (.invokestatic 40, 3) := by decide +kernel
theorem dX1_isYear_8 : decode cX1_isYear 8 = .ok (.ireturn, 1) := by decide +kernel
set_option maxRecDepth 20000 in
theorem ggX1_isDay_X1_isIn : GoodIn wsX1_isDay wsX1_isIn := goodIn_r _ [5] (by decide +kernel) (by decide +kernel)
set_option maxRecDepth 20000 in
theorem gX1_isDay_X1_isIn : GoodIn wsX1_isDay (va_wsS RX1 40 yX1_isIn wsX1_isIn) := goodIn_app (goodIn_of _ (by decide +kernel)) ggX1_isDay_X1_isIn
theorem dX1_isDay_0 : decode cX1_isDay 0 = .ok (.iload_n 0, 1) := by decide +kernel
theorem dX1_isDay_1 : decode cX1_isDay 1 = .ok (.iconst 0, 1) := by decide +kernel
theorem dX1_isDay_2 : decode cX1_isDay 2 = .ok (.ldc 44, 2) := by decide +kernel
theorem dX1_isDay_4 : decode cX1_isDay 4 = .ok (.invokestatic 40, 3) := by decide +kernel
theorem dX1_isDay_7 : decode cX1_isDay 7 = .ok (.ireturn, 1) := by decide +kernel
theorem dX1_isLeap_0 : decode cX1_isLeap 0 = .ok (.iload_n 0, 1) := by decide +kernel
theorem dX1_isLeap_1 : decode cX1_isLeap 1 = .ok (.iconst 4, 1) := by decide +kernel
theorem dX1_isLeap_2 : decode cX1_isLeap 2 = .ok (.irem, 1) := by decide +kernel
theorem dX1_isLeap_3 : decode cX1_isLeap 3 = .ok (.ifCond .ne 7, 3) := by decide +kernel
theorem dX1_isLeap_6 : decode cX1_isLeap 6 = .ok (.iconst 1, 1) := by decide +kernel
theorem dX1_isLeap_7 : decode cX1_isLeap 7 = .ok (.goto 4, 3) := by decide +kernel
theorem dX1_isLeap_10 : decode cX1_isLeap 10 = .ok (.iconst 0, 1) := by decide +kernel
theorem dX1_isLeap_11 : decode cX1_isLeap 11 = .ok (.ireturn, 1) := by decide +kernel
set_option maxRecDepth 20000 in
theorem ggX1_length_X1_isLeap : GoodIn wsX1_length wsX1_isLeap := goodIn_r _ [4] (by decide +kernel) (by decide +kernel)
set_option maxRecDepth 20000 in
theorem gX1_length_X1_isLeap : GoodIn wsX1_length (va_wsS RX1 45 yX1_isLeap wsX1_isLeap) := goodIn_app (goodIn_of _ (by decide +kernel)) ggX1_length_X1_isLeap
theorem dX1_length_0 : decode cX1_length 0 = .ok (.iload_n 1, 1) := by decide +kernel
theorem dX1_length_1 : decode cX1_length 1 = .ok (.iconst 2, 1) := by decide +kernel
theorem dX1_length_2 : decode cX1_length 2 = .ok (.if_icmp .ne 18, 3) := by decide +kernel
theorem dX1_length_5 : decode cX1_length 5 = .ok (.iload_n 0, 1) := by decide +kernel
theorem dX1_length_6 : decode cX1_length 6 = .ok (.invokestatic 45, 3) := by decide +kernel
theorem dX1_length_9 : decode cX1_length 9 = .ok (.ifCond .eq 8, 3) := by decide +kernel
theorem dX1_length_12 : decode cX1_length 12 = .ok (.bipush 29, 2) := by decide +kernel
theorem dX1_length_14 : decode cX1_length 14 = .ok (.goto 5, 3) := by decide +kernel
theorem dX1_length_17 : decode cX1_length 17 = .ok (.bipush 28, 2) := by decide +kernel
theorem dX1_length_19 : decode cX1_length 19 = .ok (.ireturn, 1) := by decide +kernel
theorem dX1_length_20 : decode cX1_length 20 = .ok (.iload_n 1, 1) := by decide +kernel
theorem dX1_length_21 : decode cX1_length 21 = .ok (.iconst 4, 1) := by decide +kernel
theorem dX1_length_22 : decode cX1_length 22 = .ok (.if_icmp .eq 21, 3) := by decide +kernel
theorem dX1_length_25 : decode cX1_length 25 = .ok (.iload_n 1, 1) := by decide +kernel
theorem dX1_length_26 : decode cX1_length 26 = .ok (.bipush 6, 2) := by decide +kernel
theorem dX1_length_28 : decode cX1_length 28 = .ok (.if_icmp .eq 15, 3) := by decide +kernel
theorem dX1_length_31 : decode cX1_length 31 = .ok (.iload_n 1, 1) := by decide +kernel
theorem dX1_length_32 : decode cX1_length 32 = .ok (.bipush 9, 2) := by decide +kernel
theorem dX1_length_34 : decode cX1_length 34 = .ok (.if_icmp .eq 9, 3) := by decide +kernel
theorem dX1_length_37 : decode cX1_length 37 = .ok (.iload_n 1, 1) := by decide +kernel
theorem dX1_length_38 : decode cX1_length 38 = .ok (.bipush 11, 2) := by decide +kernel
theorem dX1_length_40 : decode cX1_length 40 = .ok (.if_icmp .ne 8, 3) := by decide +kernel
theorem dX1_length_43 : decode cX1_length 43 = .ok (.bipush 30, 2) := by decide +kernel
theorem dX1_length_45 : decode cX1_length 45 = .ok (.goto 5, 3) := by decide +kernel
theorem dX1_length_48 : decode cX1_length 48 = .ok (.bipush 31, 2) := by decide +kernel
theorem dX1_length_50 : decode cX1_length 50 = .ok (.ireturn, 1) := by decide +kernel
theorem dX1_begin_0 : decode cX1_begin 0 = .ok (.sipush 365, 3) := by decide +kernel
theorem dX1_begin_3 : decode cX1_begin 3 = .ok (.iload_n 0, 1) := by decide +kernel
theorem dX1_begin_4 : decode cX1_begin 4 = .ok (.iconst 1, 1) := by decide +kernel
theorem dX1_begin_5 : decode cX1_begin 5 = .ok (.isub, 1) := by decide +kernel
theorem dX1_begin_6 : decode cX1_begin 6 = .ok (.imul, 1) := by decide +kernel
theorem dX1_begin_7 : decode cX1_begin 7 = .ok (.iload_n 0, 1) := by decide +kernel
theorem dX1_begin_8 : decode cX1_begin 8 = .ok (.iconst 1, 1) := by decide +kernel
theorem dX1_begin_9 : decode cX1_begin 9 = .ok (.isub, 1) := by decide +kernel
theorem dX1_begin_10 : decode cX1_begin 10 = .ok (.iconst 4, 1) := by decide +kernel
theorem dX1_begin_11 : decode cX1_begin 11 = .ok (.idiv, 1) := by decide +kernel
theorem dX1_begin_12 : decode cX1_begin 12 = .ok (.iadd, 1) := by decide +kernel
theorem dX1_begin_13 : decode cX1_begin 13 = .ok (.ireturn, 1) := by decide +kernel
set_option maxRecDepth 20000 in
theorem ggX1_numberFor_X1_begin : GoodIn wsX1_numberFor wsX1_begin := goodIn_r _ [4] (by decide +kernel) (by decide +kernel)
set_option maxRecDepth 20000 in
theorem gX1_numberFor_X1_begin : GoodIn wsX1_numberFor (va_wsS RX1 49 yX1_begin wsX1_begin) := goodIn_app (goodIn_of _ (by decide +kernel)) ggX1_numberFor_X1_begin
set_option maxRecDepth 20000 in
theorem ggX1_numberFor_X1_length : GoodIn wsX1_numberFor wsX1_length := goodIn_r _ [7, 8, 9, 3, 10] (by decide +kernel) (by decide +kernel)
set_option maxRecDepth 20000 in
theorem gX1_numberFor_X1_length : GoodIn wsX1_numberFor (va_wsS RX1 52 yX1_length wsX1_length) := goodIn_app (goodIn_of _ (by decide +kernel)) ggX1_numberFor_X1_length
theorem dX1_numberFor_0 : decode cX1_numberFor 0 = .ok (.iload_n 0, 1) := by decide +kernel
theorem dX1_numberFor_1 : decode cX1_numberFor 1 = .ok (.invokestatic 49, 3) := by decide +kernel
theorem dX1_numberFor_4 : decode cX1_numberFor 4 = .ok (.iload_n 2, 1) := by decide +kernel
theorem dX1_numberFor_5 : decode cX1_numberFor 5 = .ok (.iadd, 1) := by decide +kernel
theorem dX1_numberFor_6 : decode cX1_numberFor 6 = .ok (.iconst 1, 1) := by decide +kernel
theorem dX1_numberFor_7 : decode cX1_numberFor 7 = .ok (.isub, 1) := by decide +kernel
theorem dX1_numberFor_8 : decode cX1_numberFor 8 = .ok (.istore_n 3, 1) := by decide +kernel
theorem dX1_numberFor_9 : decode cX1_numberFor 9 = .ok (.iconst 1, 1) := by decide +kernel
theorem dX1_numberFor_10 : decode cX1_numberFor 10 = .ok (.istore 4, 2) := by decide +kernel
theorem dX1_numberFor_12 : decode cX1_numberFor 12 = .ok (.iload 4, 2) := by decide +kernel
theorem dX1_numberFor_14 : decode cX1_numberFor 14 = .ok (.iload_n 1, 1) := by decide +kernel
theorem dX1_numberFor_15 : decode cX1_numberFor 15 = .ok (.if_icmp .ge 18, 3) := by decide +kernel
theorem dX1_numberFor_18 : decode cX1_numberFor 18 = .ok (.iload_n 3, 1) := by decide +kernel
theorem dX1_numberFor_19 : decode cX1_numberFor 19 = .ok (.iload_n 0, 1) := by decide +kernel
theorem dX1_numberFor_20 : decode cX1_numberFor 20 = .ok (.iload 4, 2) := by decide +kernel
theorem dX1_numberFor_22 : decode cX1_numberFor 22 = .ok (.invokestatic 52, 3) := by decide +kernel
theorem dX1_numberFor_25 : decode cX1_numberFor 25 = .ok (.iadd, 1) := by decide +kernel
theorem dX1_numberFor_26 : decode cX1_numberFor 26 = .ok (.istore_n 3, 1) := by decide +kernel
theorem dX1_numberFor_27 : decode cX1_numberFor 27 = .ok (.iinc 4 1, 3) := by decide +kernel
theorem dX1_numberFor_30 : decode cX1_numberFor 30 = .ok (.goto (-18), 3) := by decide +kernel
theorem dX1_numberFor_33 : decode cX1_numberFor 33 = .ok (.iload_n 3, 1) := by decide +kernel
theorem dX1_numberFor_34 : decode cX1_numberFor 34 = .ok (.ireturn, 1) := by decide +kernel
set_option maxRecDepth 20000 in
theorem ggX1_splits_X1_begin : GoodIn wsX1_splits wsX1_begin := goodIn_r _ [7] (by decide +kernel) (by decide +kernel)
set_option maxRecDepth 20000 in
theorem gX1_splits_X1_begin : GoodIn wsX1_splits (va_wsS RX1 49 yX1_begin wsX1_begin) := goodIn_app (goodIn_of _ (by decide +kernel)) ggX1_splits_X1_begin
set_option maxRecDepth 20000 in
theorem ggX1_splits_X1_length : GoodIn wsX1_splits wsX1_length := goodIn_r _ [10, 11, 12, 6, 13] (by decide +kernel) (by decide +kernel)
set_option maxRecDepth 20000 in
theorem gX1_splits_X1_length : GoodIn wsX1_splits (va_wsS RX1 52 yX1_length wsX1_length) := goodIn_app (goodIn_of _ (by decide +kernel)) ggX1_splits_X1_length
theorem dX1_splits_0 : decode cX1_splits 0 = .ok (.iload_n 1, 1) := by decide +kernel
theorem dX1_splits_1 : decode cX1_splits 1 = .ok (.sipush 1461, 3) := by decide +kernel
theorem dX1_splits_4 : decode cX1_splits 4 = .ok (.irem, 1) := by decide +kernel
theorem dX1_splits_5 : decode cX1_splits 5 = .ok (.istore_n 2, 1) := by decide +kernel
theorem dX1_splits_6 : decode cX1_splits 6 = .ok (.aload_n 0, 1) := by decide +kernel
theorem dX1_splits_7 : decode cX1_splits 7 = .ok (.iconst 4, 1) := by decide +kernel
theorem dX1_splits_8 : decode cX1_splits 8 = .ok (.iload_n 1, 1) := by decide +kernel
theorem dX1_splits_9 : decode cX1_splits 9 = .ok (.sipush 1461, 3) := by decide +kernel
theorem dX1_splits_12 : decode cX1_splits 12 = .ok (.idiv, 1) := by decide +kernel
theorem dX1_splits_13 : decode cX1_splits 13 = .ok (.imul, 1) := by decide +kernel
theorem dX1_splits_14 : decode cX1_splits 14 = .ok (.iconst 1, 1) := by decide +kernel
theorem dX1_splits_15 : decode cX1_splits 15 = .ok (.iadd, 1) := by decide +kernel
theorem dX1_splits_16 : decode cX1_splits 16 = .ok (.iload_n 2, 1) := by decide +kernel
theorem dX1_splits_17 : decode cX1_splits 17 = .ok (.sipush 365, 3) := by decide +kernel
theorem dX1_splits_20 : decode cX1_splits 20 = .ok (.idiv, 1) := by decide +kernel
theorem dX1_splits_21 : decode cX1_splits 21 = .ok (.iconst 3, 1) := by decide +kernel
theorem dX1_splits_22 : decode cX1_splits 22 = .ok (.if_icmp .le 7, 3) := by decide +kernel
theorem dX1_splits_25 : decode cX1_splits 25 = .ok (.iconst 3, 1) := by decide +kernel
theorem dX1_splits_26 : decode cX1_splits 26 = .ok (.goto 8, 3) := by decide +kernel
theorem dX1_splits_29 : decode cX1_splits 29 = .ok (.iload_n 2, 1) := by decide +kernel
theorem dX1_splits_30 : decode cX1_splits 30 = .ok (.sipush 365, 3) := by decide +kernel
theorem dX1_splits_33 : decode cX1_splits 33 = .ok (.idiv, 1) := by decide +kernel
theorem dX1_splits_34 : decode cX1_splits 34 = .ok (.iadd, 1) := by decide +kernel
theorem dX1_splits_35 : decode cX1_splits 35 = .ok (.putfield 56, 3) := by decide +kernel
theorem dX1_splits_38 : decode cX1_splits 38 = .ok (.aload_n 0, 1) := by decide +kernel
theorem dX1_splits_39 : decode cX1_splits 39 = .ok (.iconst 1, 1) := by decide +kernel
theorem dX1_splits_40 : decode cX1_splits 40 = .ok (.putfield 27, 3) := by decide +kernel
theorem dX1_splits_43 : decode cX1_splits 43 = .ok (.aload_n 0, 1) := by decide +kernel
theorem dX1_splits_44 : decode cX1_splits 44 = .ok (.iload_n 1, 1) := by decide +kernel
theorem dX1_splits_45 : decode cX1_splits 45 = .ok (.aload_n 0, 1) := by decide +kernel
theorem dX1_splits_46 : decode cX1_splits 46 = .ok (.getfield 56, 3) := by decide +kernel
theorem dX1_splits_49 : decode cX1_splits 49 = .ok (.invokestatic 49, 3) := by decide +kernel
theorem dX1_splits_52 : decode cX1_splits 52 = .ok (.isub, 1) := by decide +kernel
theorem dX1_splits_53 : decode cX1_splits 53 = .ok (.iconst 1, 1) := by decide +kernel
theorem dX1_splits_54 : decode cX1_splits 54 = .ok (.iadd, 1) := by decide +kernel
theorem dX1_splits_55 : decode cX1_splits 55 = .ok (.putfield 23, 3) := by decide +kernel
theorem dX1_splits_58 : decode cX1_splits 58 = .ok (.aload_n 0, 1) := by decide +kernel
theorem dX1_splits_59 : decode cX1_splits 59 = .ok (.getfield 23, 3) := by decide +kernel
theorem dX1_splits_62 : decode cX1_splits 62 = .ok (.aload_n 0, 1) := by decide +kernel
theorem dX1_splits_63 : decode cX1_splits 63 = .ok (.getfield 56, 3) := by decide +kernel
theorem dX1_splits_66 : decode cX1_splits 66 = .ok (.aload_n 0, 1) := by decide +kernel
theorem dX1_splits_67 : decode cX1_splits 67 = .ok (.getfield 27, 3) := by decide +kernel
theorem dX1_splits_70 : decode cX1_splits 70 = .ok (.invokestatic 52, 3) := by decide +kernel
theorem dX1_splits_73 : decode cX1_splits 73 = .ok (.if_icmp .le 36, 3) := by decide +kernel
theorem dX1_splits_76 : decode cX1_splits 76 = .ok (.aload_n 0, 1) := by decide +kernel
theorem dX1_splits_77 : decode cX1_splits 77 = .ok (.dup, 1) := by decide +kernel
theorem dX1_splits_78 : decode cX1_splits 78 = .ok (.getfield 23, 3) := by decide +kernel
theorem dX1_splits_81 : decode cX1_splits 81 = .ok (.aload_n 0, 1) := by decide +kernel
theorem dX1_splits_82 : decode cX1_splits 82 = .ok (.getfield 56, 3) := by decide +kernel
theorem dX1_splits_85 : decode cX1_splits 85 = .ok (.aload_n 0, 1) := by decide +kernel
theorem dX1_splits_86 : decode cX1_splits 86 = .ok (.getfield 27, 3) := by decide +kernel
theorem dX1_splits_89 : decode cX1_splits 89 = .ok (.invokestatic 52, 3) := by decide +kernel
theorem dX1_splits_92 : decode cX1_splits 92 = .ok (.isub, 1) := by decide +kernel
theorem dX1_splits_93 : decode cX1_splits 93 = .ok (.putfield 23, 3) := by decide +kernel
theorem dX1_splits_96 : decode cX1_splits 96 = .ok (.aload_n 0, 1) := by decide +kernel
theorem dX1_splits_97 : decode cX1_splits 97 = .ok (.dup, 1) := by decide +kernel
theorem dX1_splits_98 : decode cX1_splits 98 = .ok (.getfield 27, 3) := by decide +kernel
theorem dX1_splits_101 : decode cX1_splits 101 = .ok (.iconst 1, 1) := by decide +kernel
theorem dX1_splits_102 : decode cX1_splits 102 = .ok (.iadd, 1) := by decide +kernel
theorem dX1_splits_103 : decode cX1_splits 103 = .ok (.putfield 27, 3) := by decide +kernel
theorem dX1_splits_106 : decode cX1_splits 106 = .ok (.goto (-48), 3) := by decide +kernel
theorem dX1_splits_109 : decode cX1_splits 109 = .ok (.return_, 1) := by decide +kernel
set_option maxRecDepth 20000 in
theorem ggX1_isAsked_X1_isDay : GoodIn wsX1_isAsked wsX1_isDay := goodIn_r _ [4, 5, 6, 7, 3, 8] (by decide +kernel) (by decide +kernel)
set_option maxRecDepth 20000 in
theorem gX1_isAsked_X1_isDay : GoodIn wsX1_isAsked (va_wsS RX1 59 yX1_isDay wsX1_isDay) := goodIn_app (goodIn_of _ (by decide +kernel)) ggX1_isAsked_X1_isDay
set_option maxRecDepth 20000 in
theorem ggX1_isAsked_X1_isFine : GoodIn wsX1_isAsked wsX1_isFine := goodIn_r _ [12, 13, 30, 31, 32, 33, 34, 35, 36, 37, 38] (by decide +kernel) (by decide +kernel)
set_option maxRecDepth 20000 in
theorem gX1_isAsked_X1_isFine : GoodIn wsX1_isAsked (wsV RX1 62 RX1 yX1_isFine wsX1_isFine) := goodIn_app (goodIn_of _ (by decide +kernel)) ggX1_isAsked_X1_isFine
set_option maxRecDepth 20000 in
theorem ggX1_isAsked_X1_splits : GoodIn wsX1_isAsked wsX1_splits := goodIn_r _ [17, 18, 19, 20, 21, 22, 3, 23, 24, 25, 26, 27, 28, 29, 30, 31, 32, 33, 34, 35, 36, 37, 38] (by decide +kernel) (by decide +kernel)
set_option maxRecDepth 20000 in
theorem gX1_isAsked_X1_splits : GoodIn wsX1_isAsked (wsV RX1 19 RX1 yX1_splits wsX1_splits) := goodIn_app (goodIn_of _ (by decide +kernel)) ggX1_isAsked_X1_splits
theorem dX1_isAsked_0 : decode cX1_isAsked 0 = .ok (.aload_n 0, 1) := by decide +kernel
theorem dX1_isAsked_1 : decode cX1_isAsked 1 = .ok (.iload_n 1, 1) := by decide +kernel
theorem dX1_isAsked_2 : decode cX1_isAsked 2 = .ok (.invokestatic 59, 3) := by decide +kernel
theorem dX1_isAsked_5 : decode cX1_isAsked 5 = .ok (.ifCond .eq 7, 3) := by decide +kernel
theorem dX1_isAsked_8 : decode cX1_isAsked 8 = .ok (.iconst 0, 1) := by decide +kernel
theorem dX1_isAsked_9 : decode cX1_isAsked 9 = .ok (.goto 4, 3) := by decide +kernel
theorem dX1_isAsked_12 : decode cX1_isAsked 12 = .ok (.iconst 1, 1) := by decide +kernel
theorem dX1_isAsked_13 : decode cX1_isAsked 13 = .ok (.invokevirtual 62, 3) := by decide +kernel
theorem dX1_isAsked_16 : decode cX1_isAsked 16 = .ok (.istore_n 2, 1) := by decide +kernel
theorem dX1_isAsked_17 : decode cX1_isAsked 17 = .ok (.iload_n 2, 1) := by decide +kernel
theorem dX1_isAsked_18 : decode cX1_isAsked 18 = .ok (.ifCond .eq 8, 3) := by decide +kernel
theorem dX1_isAsked_21 : decode cX1_isAsked 21 = .ok (.aload_n 0, 1) := by decide +kernel
theorem dX1_isAsked_22 : decode cX1_isAsked 22 = .ok (.iload_n 1, 1) := by decide +kernel
theorem dX1_isAsked_23 : decode cX1_isAsked 23 = .ok (.invokevirtual 19, 3) := by decide +kernel
theorem dX1_isAsked_26 : decode cX1_isAsked 26 = .ok (.iload_n 2, 1) := by decide +kernel
theorem dX1_isAsked_27 : decode cX1_isAsked 27 = .ok (.ireturn, 1) := by decide +kernel
theorem dX1_days_0 : decode cX1_days 0 = .ok (.aload_n 0, 1) := by decide +kernel
theorem dX1_days_1 : decode cX1_days 1 = .ok (.iconst 0, 1) := by decide +kernel
theorem dX1_days_2 : decode cX1_days 2 = .ok (.putfield 37, 3) := by decide +kernel
theorem dX1_days_5 : decode cX1_days 5 = .ok (.ldc 65, 2) := by decide +kernel
theorem dX1_days_7 : decode cX1_days 7 = .ok (.ireturn, 1) := by decide +kernel
set_option maxRecDepth 20000 in
theorem ggX1_number_X1_isYear : GoodIn wsX1_number wsX1_isYear := goodIn_r _ [4, 5, 6, 3, 7] (by decide +kernel) (by decide +kernel)
set_option maxRecDepth 20000 in
theorem gX1_number_X1_isYear : GoodIn wsX1_number (va_wsS RX1 66 yX1_isYear wsX1_isYear) := goodIn_app (goodIn_of _ (by decide +kernel)) ggX1_number_X1_isYear
set_option maxRecDepth 20000 in
theorem ggX1_number_X1_isIn : GoodIn wsX1_number wsX1_isIn := goodIn_r _ [7] (by decide +kernel) (by decide +kernel)
set_option maxRecDepth 20000 in
theorem gX1_number_X1_isIn : GoodIn wsX1_number (va_wsS RX1 40 yX1_isIn wsX1_isIn) := goodIn_app (goodIn_of _ (by decide +kernel)) ggX1_number_X1_isIn
set_option maxRecDepth 20000 in
theorem ggX1_number_X1_length : GoodIn wsX1_number wsX1_length := goodIn_r _ [10, 11, 12, 3, 13] (by decide +kernel) (by decide +kernel)
set_option maxRecDepth 20000 in
theorem gX1_number_X1_length : GoodIn wsX1_number (va_wsS RX1 52 yX1_length wsX1_length) := goodIn_app (goodIn_of _ (by decide +kernel)) ggX1_number_X1_length
set_option maxRecDepth 20000 in
theorem ggX1_number_X1_isFine : GoodIn wsX1_number wsX1_isFine := goodIn_r _ [17, 18, 25, 26, 27, 28, 29, 30, 31, 32, 33] (by decide +kernel) (by decide +kernel)
set_option maxRecDepth 20000 in
theorem gX1_number_X1_isFine : GoodIn wsX1_number (wsV RX1 62 RX1 yX1_isFine wsX1_isFine) := goodIn_app (goodIn_of _ (by decide +kernel)) ggX1_number_X1_isFine
set_option maxRecDepth 20000 in
theorem ggX1_number_X1_numberFor : GoodIn wsX1_number wsX1_numberFor := goodIn_r _ [21, 22, 23, 3, 24, 8, 9, 10, 11, 12, 13] (by decide +kernel) (by decide +kernel)
set_option maxRecDepth 20000 in
theorem gX1_number_X1_numberFor : GoodIn wsX1_number (va_wsS RX1 69 yX1_numberFor wsX1_numberFor) := goodIn_app (goodIn_of _ (by decide +kernel)) ggX1_number_X1_numberFor
theorem dX1_number_0 : decode cX1_number 0 = .ok (.iload_n 1, 1) := by decide +kernel
theorem dX1_number_1 : decode cX1_number 1 = .ok (.invokestatic 66, 3) := by decide +kernel
theorem dX1_number_4 : decode cX1_number 4 = .ok (.ifCond .eq 30, 3) := by decide +kernel
theorem dX1_number_7 : decode cX1_number 7 = .ok (.iload_n 2, 1) := by decide +kernel
theorem dX1_number_8 : decode cX1_number 8 = .ok (.iconst 1, 1) := by decide +kernel
theorem dX1_number_9 : decode cX1_number 9 = .ok (.bipush 12, 2) := by decide +kernel
theorem dX1_number_11 : decode cX1_number 11 = .ok (.invokestatic 40, 3) := by decide +kernel
theorem dX1_number_14 : decode cX1_number 14 = .ok (.ifCond .eq 20, 3) := by decide +kernel
theorem dX1_number_17 : decode cX1_number 17 = .ok (.iload_n 3, 1) := by decide +kernel
theorem dX1_number_18 : decode cX1_number 18 = .ok (.iconst 1, 1) := by decide +kernel
theorem dX1_number_19 : decode cX1_number 19 = .ok (.iload_n 1, 1) := by decide +kernel
theorem dX1_number_20 : decode cX1_number 20 = .ok (.iload_n 2, 1) := by decide +kernel
theorem dX1_number_21 : decode cX1_number 21 = .ok (.invokestatic 52, 3) := by decide +kernel
theorem dX1_number_24 : decode cX1_number 24 = .ok (.invokestatic 40, 3) := by decide +kernel
theorem dX1_number_27 : decode cX1_number 27 = .ok (.ifCond .eq 7, 3) := by decide +kernel
theorem dX1_number_30 : decode cX1_number 30 = .ok (.iconst 1, 1) := by decide +kernel
theorem dX1_number_31 : decode cX1_number 31 = .ok (.goto 4, 3) := by decide +kernel
theorem dX1_number_34 : decode cX1_number 34 = .ok (.iconst 0, 1) := by decide +kernel
theorem dX1_number_35 : decode cX1_number 35 = .ok (.istore 4, 2) := by decide +kernel
theorem dX1_number_37 : decode cX1_number 37 = .ok (.aload_n 0, 1) := by decide +kernel
theorem dX1_number_38 : decode cX1_number 38 = .ok (.iload 4, 2) := by decide +kernel
theorem dX1_number_40 : decode cX1_number 40 = .ok (.ifCond .eq 7, 3) := by decide +kernel
theorem dX1_number_43 : decode cX1_number 43 = .ok (.iconst 0, 1) := by decide +kernel
theorem dX1_number_44 : decode cX1_number 44 = .ok (.goto 4, 3) := by decide +kernel
theorem dX1_number_47 : decode cX1_number 47 = .ok (.iconst 1, 1) := by decide +kernel
theorem dX1_number_48 : decode cX1_number 48 = .ok (.invokevirtual 62, 3) := by decide +kernel
theorem dX1_number_51 : decode cX1_number 51 = .ok (.ifCond .eq 12, 3) := by decide +kernel
theorem dX1_number_54 : decode cX1_number 54 = .ok (.iload_n 1, 1) := by decide +kernel
theorem dX1_number_55 : decode cX1_number 55 = .ok (.iload_n 2, 1) := by decide +kernel
theorem dX1_number_56 : decode cX1_number 56 = .ok (.iload_n 3, 1) := by decide +kernel
theorem dX1_number_57 : decode cX1_number 57 = .ok (.invokestatic 69, 3) := by decide +kernel
theorem dX1_number_60 : decode cX1_number 60 = .ok (.goto 4, 3) := by decide +kernel
theorem dX1_number_63 : decode cX1_number 63 = .ok (.iconst 0, 1) := by decide +kernel
theorem dX1_number_64 : decode cX1_number 64 = .ok (.ireturn, 1) := by decide +kernel
set_option maxRecDepth 20000 in
theorem ggX1_numberByCounting_X1_number : GoodIn wsX1_numberByCounting wsX1_number := goodIn_r _ [5, 6, 7, 4, 8, 9, 10, 11, 12, 13, 14, 15, 16, 17, 18, 19, 20, 21, 22, 23, 24, 25, 26, 27, 28, 29, 30, 31, 32, 33, 34, 35, 36, 37] (by decide +kernel) (by decide +kernel)
set_option maxRecDepth 20000 in
theorem gX1_numberByCounting_X1_number : GoodIn wsX1_numberByCounting (wsV RX1 73 RX1 yX1_number wsX1_number) := goodIn_app (goodIn_of _ (by decide +kernel)) ggX1_numberByCounting_X1_number
theorem dX1_numberByCounting_0 : decode cX1_numberByCounting 0 = .ok (.aload_n 0, 1) := by decide +kernel
theorem dX1_numberByCounting_1 : decode cX1_numberByCounting 1 = .ok (.iload_n 1, 1) := by decide +kernel
theorem dX1_numberByCounting_2 : decode cX1_numberByCounting 2 = .ok (.iload_n 2, 1) := by decide +kernel
theorem dX1_numberByCounting_3 : decode cX1_numberByCounting 3 = .ok (.iload_n 3, 1) := by decide +kernel
theorem dX1_numberByCounting_4 : decode cX1_numberByCounting 4 = .ok (.invokevirtual 73, 3) := by decide +kernel
theorem dX1_numberByCounting_7 : decode cX1_numberByCounting 7 = .ok (.ireturn, 1) := by decide +kernel
set_option maxRecDepth 20000 in
theorem ggX1_yearOf_X1_isAsked : GoodIn wsX1_yearOf wsX1_isAsked := goodIn_r _ [6, 7, 8, 5, 9, 10, 11, 12, 13, 14, 15, 16, 17, 18, 19, 20, 21, 22, 1, 23, 24, 25, 26, 27, 28, 29, 30, 31, 32, 33, 34, 35, 36, 37, 38, 39, 40, 41, 42] (by decide +kernel) (by decide +kernel)
set_option maxRecDepth 20000 in
theorem gX1_yearOf_X1_isAsked : GoodIn wsX1_yearOf (wsV RX1 76 RX1 yX1_isAsked wsX1_isAsked) := goodIn_app (goodIn_of _ (by decide +kernel)) ggX1_yearOf_X1_isAsked
theorem dX1_yearOf_0 : decode cX1_yearOf 0 = .ok (.aload_n 0, 1) := by decide +kernel
theorem dX1_yearOf_1 : decode cX1_yearOf 1 = .ok (.iload_n 1, 1) := by decide +kernel
theorem dX1_yearOf_2 : decode cX1_yearOf 2 = .ok (.invokevirtual 76, 3) := by decide +kernel
theorem dX1_yearOf_5 : decode cX1_yearOf 5 = .ok (.ifCond .eq 10, 3) := by decide +kernel
theorem dX1_yearOf_8 : decode cX1_yearOf 8 = .ok (.aload_n 0, 1) := by decide +kernel
theorem dX1_yearOf_9 : decode cX1_yearOf 9 = .ok (.getfield 56, 3) := by decide +kernel
theorem dX1_yearOf_12 : decode cX1_yearOf 12 = .ok (.goto 4, 3) := by decide +kernel
theorem dX1_yearOf_15 : decode cX1_yearOf 15 = .ok (.iconst 0, 1) := by decide +kernel
theorem dX1_yearOf_16 : decode cX1_yearOf 16 = .ok (.ireturn, 1) := by decide +kernel
set_option maxRecDepth 20000 in
theorem ggX1_monthOf_X1_isAsked : GoodIn wsX1_monthOf wsX1_isAsked := goodIn_r _ [6, 7, 8, 5, 9, 10, 11, 12, 13, 14, 15, 16, 17, 18, 19, 20, 21, 22, 23, 1, 24, 25, 26, 27, 28, 29, 30, 31, 32, 33, 34, 35, 36, 37, 38, 39, 40, 41, 42] (by decide +kernel) (by decide +kernel)
set_option maxRecDepth 20000 in
theorem gX1_monthOf_X1_isAsked : GoodIn wsX1_monthOf (wsV RX1 76 RX1 yX1_isAsked wsX1_isAsked) := goodIn_app (goodIn_of _ (by decide +kernel)) ggX1_monthOf_X1_isAsked
theorem dX1_monthOf_0 : decode cX1_monthOf 0 = .ok (.aload_n 0, 1) := by decide +kernel
theorem dX1_monthOf_1 : decode cX1_monthOf 1 = .ok (.iload_n 1, 1) := by decide +kernel
theorem dX1_monthOf_2 : decode cX1_monthOf 2 = .ok (.invokevirtual 76, 3) := by decide +kernel
theorem dX1_monthOf_5 : decode cX1_monthOf 5 = .ok (.ifCond .eq 10, 3) := by decide +kernel
theorem dX1_monthOf_8 : decode cX1_monthOf 8 = .ok (.aload_n 0, 1) := by decide +kernel
theorem dX1_monthOf_9 : decode cX1_monthOf 9 = .ok (.getfield 27, 3) := by decide +kernel
theorem dX1_monthOf_12 : decode cX1_monthOf 12 = .ok (.goto 4, 3) := by decide +kernel
theorem dX1_monthOf_15 : decode cX1_monthOf 15 = .ok (.iconst 0, 1) := by decide +kernel
theorem dX1_monthOf_16 : decode cX1_monthOf 16 = .ok (.ireturn, 1) := by decide +kernel
set_option maxRecDepth 20000 in
theorem ggX1_dayOf_X1_isAsked : GoodIn wsX1_dayOf wsX1_isAsked := goodIn_r _ [6, 7, 8, 5, 9, 10, 11, 12, 13, 14, 15, 16, 17, 18, 19, 20, 21, 22, 23, 24, 1, 25, 26, 27, 28, 29, 30, 31, 32, 33, 34, 35, 36, 37, 38, 39, 40, 41, 42] (by decide +kernel) (by decide +kernel)
set_option maxRecDepth 20000 in
theorem gX1_dayOf_X1_isAsked : GoodIn wsX1_dayOf (wsV RX1 76 RX1 yX1_isAsked wsX1_isAsked) := goodIn_app (goodIn_of _ (by decide +kernel)) ggX1_dayOf_X1_isAsked
theorem dX1_dayOf_0 : decode cX1_dayOf 0 = .ok (.aload_n 0, 1) := by decide +kernel
theorem dX1_dayOf_1 : decode cX1_dayOf 1 = .ok (.iload_n 1, 1) := by decide +kernel
theorem dX1_dayOf_2 : decode cX1_dayOf 2 = .ok (.invokevirtual 76, 3) := by decide +kernel
theorem dX1_dayOf_5 : decode cX1_dayOf 5 = .ok (.ifCond .eq 10, 3) := by decide +kernel
theorem dX1_dayOf_8 : decode cX1_dayOf 8 = .ok (.aload_n 0, 1) := by decide +kernel
theorem dX1_dayOf_9 : decode cX1_dayOf 9 = .ok (.getfield 23, 3) := by decide +kernel
theorem dX1_dayOf_12 : decode cX1_dayOf 12 = .ok (.goto 4, 3) := by decide +kernel
theorem dX1_dayOf_15 : decode cX1_dayOf 15 = .ok (.iconst 0, 1) := by decide +kernel
theorem dX1_dayOf_16 : decode cX1_dayOf 16 = .ok (.ireturn, 1) := by decide +kernel
set_option maxRecDepth 20000 in
theorem ggX1_weekdayOf_X1_isDay : GoodIn wsX1_weekdayOf wsX1_isDay := goodIn_r _ [4, 5, 6, 7, 3, 8] (by decide +kernel) (by decide +kernel)
set_option maxRecDepth 20000 in
theorem gX1_weekdayOf_X1_isDay : GoodIn wsX1_weekdayOf (va_wsS RX1 59 yX1_isDay wsX1_isDay) := goodIn_app (goodIn_of _ (by decide +kernel)) ggX1_weekdayOf_X1_isDay
set_option maxRecDepth 20000 in
theorem ggX1_weekdayOf_X1_isFine : GoodIn wsX1_weekdayOf wsX1_isFine := goodIn_r _ [12, 13, 14, 15, 16, 17, 18, 19, 20, 21, 22] (by decide +kernel) (by decide +kernel)
set_option maxRecDepth 20000 in
theorem gX1_weekdayOf_X1_isFine : GoodIn wsX1_weekdayOf (wsV RX1 62 RX1 yX1_isFine wsX1_isFine) := goodIn_app (goodIn_of _ (by decide +kernel)) ggX1_weekdayOf_X1_isFine
theorem dX1_weekdayOf_0 : decode cX1_weekdayOf 0 = .ok (.aload_n 0, 1) := by decide +kernel
theorem dX1_weekdayOf_1 : decode cX1_weekdayOf 1 = .ok (.iload_n 1, 1) := by decide +kernel
theorem dX1_weekdayOf_2 : decode cX1_weekdayOf 2 = .ok (.invokestatic 59, 3) := by decide +kernel
theorem dX1_weekdayOf_5 : decode cX1_weekdayOf 5 = .ok (.ifCond .eq 7, 3) := by decide +kernel
theorem dX1_weekdayOf_8 : decode cX1_weekdayOf 8 = .ok (.iconst 0, 1) := by decide +kernel
theorem dX1_weekdayOf_9 : decode cX1_weekdayOf 9 = .ok (.goto 4, 3) := by decide +kernel
theorem dX1_weekdayOf_12 : decode cX1_weekdayOf 12 = .ok (.iconst 1, 1) := by decide +kernel
theorem dX1_weekdayOf_13 : decode cX1_weekdayOf 13 = .ok (.invokevirtual 62, 3) := by decide +kernel
theorem dX1_weekdayOf_16 : decode cX1_weekdayOf 16 = .ok (.ifCond .eq 13, 3) := by decide +kernel
theorem dX1_weekdayOf_19 : decode cX1_weekdayOf 19 = .ok (.iload_n 1, 1) := by decide +kernel
theorem dX1_weekdayOf_20 : decode cX1_weekdayOf 20 = .ok (.bipush 6, 2) := by decide +kernel
theorem dX1_weekdayOf_22 : decode cX1_weekdayOf 22 = .ok (.iadd, 1) := by decide +kernel
theorem dX1_weekdayOf_23 : decode cX1_weekdayOf 23 = .ok (.bipush 7, 2) := by decide +kernel
theorem dX1_weekdayOf_25 : decode cX1_weekdayOf 25 = .ok (.irem, 1) := by decide +kernel
theorem dX1_weekdayOf_26 : decode cX1_weekdayOf 26 = .ok (.goto 4, 3) := by decide +kernel
theorem dX1_weekdayOf_29 : decode cX1_weekdayOf 29 = .ok (.iconst 0, 1) := by decide +kernel
theorem dX1_weekdayOf_30 : decode cX1_weekdayOf 30 = .ok (.ireturn, 1) := by decide +kernel
theorem dX1_nones_0 : decode cX1_nones 0 = .ok (.iload_n 0, 1) := by decide +kernel
theorem dX1_nones_1 : decode cX1_nones 1 = .ok (.iconst 3, 1) := by decide +kernel
theorem dX1_nones_2 : decode cX1_nones 2 = .ok (.if_icmp .eq 20, 3) := by decide +kernel
theorem dX1_nones_5 : decode cX1_nones 5 = .ok (.iload_n 0, 1) := by decide +kernel
theorem dX1_nones_6 : decode cX1_nones 6 = .ok (.iconst 5, 1) := by decide +kernel
theorem dX1_nones_7 : decode cX1_nones 7 = .ok (.if_icmp .eq 15, 3) := by decide +kernel
theorem dX1_nones_10 : decode cX1_nones 10 = .ok (.iload_n 0, 1) := by decide +kernel
theorem dX1_nones_11 : decode cX1_nones 11 = .ok (.bipush 7, 2) := by decide +kernel
theorem dX1_nones_13 : decode cX1_nones 13 = .ok (.if_icmp .eq 9, 3) := by decide +kernel
theorem dX1_nones_16 : decode cX1_nones 16 = .ok (.iload_n 0, 1) := by decide +kernel
theorem dX1_nones_17 : decode cX1_nones 17 = .ok (.bipush 10, 2) := by decide +kernel
theorem dX1_nones_19 : decode cX1_nones 19 = .ok (.if_icmp .ne 8, 3) := by decide +kernel
theorem dX1_nones_22 : decode cX1_nones 22 = .ok (.bipush 7, 2) := by decide +kernel
theorem dX1_nones_24 : decode cX1_nones 24 = .ok (.goto 4, 3) := by decide +kernel
theorem dX1_nones_27 : decode cX1_nones 27 = .ok (.iconst 5, 1) := by decide +kernel
theorem dX1_nones_28 : decode cX1_nones 28 = .ok (.ireturn, 1) := by decide +kernel
set_option maxRecDepth 20000 in
theorem ggX1_ides_X1_nones : GoodIn wsX1_ides wsX1_nones := goodIn_r _ [4] (by decide +kernel) (by decide +kernel)
set_option maxRecDepth 20000 in
theorem gX1_ides_X1_nones : GoodIn wsX1_ides (va_wsS RX1 30 yX1_nones wsX1_nones) := goodIn_app (goodIn_of _ (by decide +kernel)) ggX1_ides_X1_nones
theorem dX1_ides_0 : decode cX1_ides 0 = .ok (.iload_n 0, 1) := by decide +kernel
theorem dX1_ides_1 : decode cX1_ides 1 = .ok (.invokestatic 30, 3) := by decide +kernel
theorem dX1_ides_4 : decode cX1_ides 4 = .ok (.bipush 8, 2) := by decide +kernel
theorem dX1_ides_6 : decode cX1_ides 6 = .ok (.iadd, 1) := by decide +kernel
theorem dX1_ides_7 : decode cX1_ides 7 = .ok (.ireturn, 1) := by decide +kernel
set_option maxRecDepth 20000 in
theorem ggX1_isDoubledNow_X1_isLeap : GoodIn wsX1_isDoubledNow wsX1_isLeap := goodIn_r _ [7] (by decide +kernel) (by decide +kernel)
set_option maxRecDepth 20000 in
theorem gX1_isDoubledNow_X1_isLeap : GoodIn wsX1_isDoubledNow (va_wsS RX1 45 yX1_isLeap wsX1_isLeap) := goodIn_app (goodIn_of _ (by decide +kernel)) ggX1_isDoubledNow_X1_isLeap
theorem dX1_isDoubledNow_0 : decode cX1_isDoubledNow 0 = .ok (.aload_n 0, 1) := by decide +kernel
theorem dX1_isDoubledNow_1 : decode cX1_isDoubledNow 1 = .ok (.getfield 56, 3) := by decide +kernel
theorem dX1_isDoubledNow_4 : decode cX1_isDoubledNow 4 = .ok (.invokestatic 45, 3) := by decide +kernel
theorem dX1_isDoubledNow_7 : decode cX1_isDoubledNow 7 = .ok (.ifCond .eq 24, 3) := by decide +kernel
theorem dX1_isDoubledNow_10 : decode cX1_isDoubledNow 10 = .ok (.aload_n 0, 1) := by decide +kernel
theorem dX1_isDoubledNow_11 : decode cX1_isDoubledNow 11 = .ok (.getfield 27, 3) := by decide +kernel
theorem dX1_isDoubledNow_14 : decode cX1_isDoubledNow 14 = .ok (.iconst 2, 1) := by decide +kernel
theorem dX1_isDoubledNow_15 : decode cX1_isDoubledNow 15 = .ok (.if_icmp .ne 16, 3) := by decide +kernel
theorem dX1_isDoubledNow_18 : decode cX1_isDoubledNow 18 = .ok (.aload_n 0, 1) := by decide +kernel
theorem dX1_isDoubledNow_19 : decode cX1_isDoubledNow 19 = .ok (.getfield 23, 3) := by decide +kernel
theorem dX1_isDoubledNow_22 : decode cX1_isDoubledNow 22 = .ok (.bipush 24, 2) := by decide +kernel
theorem dX1_isDoubledNow_24 : decode cX1_isDoubledNow 24 = .ok (.if_icmp .ne 7, 3) := by decide +kernel
theorem dX1_isDoubledNow_27 : decode cX1_isDoubledNow 27 = .ok (.iconst 1, 1) := by decide +kernel
theorem dX1_isDoubledNow_28 : decode cX1_isDoubledNow 28 = .ok (.goto 4, 3) := by decide +kernel
theorem dX1_isDoubledNow_31 : decode cX1_isDoubledNow 31 = .ok (.iconst 0, 1) := by decide +kernel
theorem dX1_isDoubledNow_32 : decode cX1_isDoubledNow 32 = .ok (.ireturn, 1) := by decide +kernel
set_option maxRecDepth 20000 in
theorem ggX1_anchorNow_X1_ides : GoodIn wsX1_anchorNow wsX1_ides := goodIn_r _ [6, 7, 8, 5, 9] (by decide +kernel) (by decide +kernel)
set_option maxRecDepth 20000 in
theorem gX1_anchorNow_X1_ides : GoodIn wsX1_anchorNow (va_wsS RX1 34 yX1_ides wsX1_ides) := goodIn_app (goodIn_of _ (by decide +kernel)) ggX1_anchorNow_X1_ides
set_option maxRecDepth 20000 in
theorem ggX1_anchorNow_X1_nones : GoodIn wsX1_anchorNow wsX1_nones := goodIn_r _ [9] (by decide +kernel) (by decide +kernel)
set_option maxRecDepth 20000 in
theorem gX1_anchorNow_X1_nones : GoodIn wsX1_anchorNow (va_wsS RX1 30 yX1_nones wsX1_nones) := goodIn_app (goodIn_of _ (by decide +kernel)) ggX1_anchorNow_X1_nones
theorem dX1_anchorNow_0 : decode cX1_anchorNow 0 = .ok (.aload_n 0, 1) := by decide +kernel
theorem dX1_anchorNow_1 : decode cX1_anchorNow 1 = .ok (.getfield 23, 3) := by decide +kernel
theorem dX1_anchorNow_4 : decode cX1_anchorNow 4 = .ok (.iconst 1, 1) := by decide +kernel
theorem dX1_anchorNow_5 : decode cX1_anchorNow 5 = .ok (.if_icmp .eq 17, 3) := by decide +kernel
theorem dX1_anchorNow_8 : decode cX1_anchorNow 8 = .ok (.aload_n 0, 1) := by decide +kernel
theorem dX1_anchorNow_9 : decode cX1_anchorNow 9 = .ok (.getfield 23, 3) := by decide +kernel
theorem dX1_anchorNow_12 : decode cX1_anchorNow 12 = .ok (.aload_n 0, 1) := by decide +kernel
theorem dX1_anchorNow_13 : decode cX1_anchorNow 13 = .ok (.getfield 27, 3) := by decide +kernel
theorem dX1_anchorNow_16 : decode cX1_anchorNow 16 = .ok (.invokestatic 34, 3) := by decide +kernel
theorem dX1_anchorNow_19 : decode cX1_anchorNow 19 = .ok (.if_icmp .le 7, 3) := by decide +kernel
theorem dX1_anchorNow_22 : decode cX1_anchorNow 22 = .ok (.iconst 0, 1) := by decide +kernel
theorem dX1_anchorNow_23 : decode cX1_anchorNow 23 = .ok (.goto 22, 3) := by decide +kernel
theorem dX1_anchorNow_26 : decode cX1_anchorNow 26 = .ok (.aload_n 0, 1) := by decide +kernel
theorem dX1_anchorNow_27 : decode cX1_anchorNow 27 = .ok (.getfield 23, 3) := by decide +kernel
theorem dX1_anchorNow_30 : decode cX1_anchorNow 30 = .ok (.aload_n 0, 1) := by decide +kernel
theorem dX1_anchorNow_31 : decode cX1_anchorNow 31 = .ok (.getfield 27, 3) := by decide +kernel
theorem dX1_anchorNow_34 : decode cX1_anchorNow 34 = .ok (.invokestatic 30, 3) := by decide +kernel
theorem dX1_anchorNow_37 : decode cX1_anchorNow 37 = .ok (.if_icmp .gt 7, 3) := by decide +kernel
theorem dX1_anchorNow_40 : decode cX1_anchorNow 40 = .ok (.iconst 1, 1) := by decide +kernel
theorem dX1_anchorNow_41 : decode cX1_anchorNow 41 = .ok (.goto 4, 3) := by decide +kernel
theorem dX1_anchorNow_44 : decode cX1_anchorNow 44 = .ok (.iconst 2, 1) := by decide +kernel
theorem dX1_anchorNow_45 : decode cX1_anchorNow 45 = .ok (.ireturn, 1) := by decide +kernel
set_option maxRecDepth 20000 in
theorem ggX1_anchorMonthNow_X1_ides : GoodIn wsX1_anchorMonthNow wsX1_ides := goodIn_r _ [6, 7, 8, 5, 9] (by decide +kernel) (by decide +kernel)
set_option maxRecDepth 20000 in
theorem gX1_anchorMonthNow_X1_ides : GoodIn wsX1_anchorMonthNow (va_wsS RX1 34 yX1_ides wsX1_ides) := goodIn_app (goodIn_of _ (by decide +kernel)) ggX1_anchorMonthNow_X1_ides
theorem dX1_anchorMonthNow_0 : decode cX1_anchorMonthNow 0 = .ok (.aload_n 0, 1) := by decide +kernel
theorem dX1_anchorMonthNow_1 : decode cX1_anchorMonthNow 1 = .ok (.getfield 23, 3) := by decide +kernel
theorem dX1_anchorMonthNow_4 : decode cX1_anchorMonthNow 4 = .ok (.aload_n 0, 1) := by decide +kernel
theorem dX1_anchorMonthNow_5 : decode cX1_anchorMonthNow 5 = .ok (.getfield 27, 3) := by decide +kernel
theorem dX1_anchorMonthNow_8 : decode cX1_anchorMonthNow 8 = .ok (.invokestatic 34, 3) := by decide +kernel
theorem dX1_anchorMonthNow_11 : decode cX1_anchorMonthNow 11 = .ok (.if_icmp .le 15, 3) := by decide +kernel
theorem dX1_anchorMonthNow_14 : decode cX1_anchorMonthNow 14 = .ok (.aload_n 0, 1) := by decide +kernel
theorem dX1_anchorMonthNow_15 : decode cX1_anchorMonthNow 15 = .ok (.getfield 27, 3) := by decide +kernel
theorem dX1_anchorMonthNow_18 : decode cX1_anchorMonthNow 18 = .ok (.bipush 12, 2) := by decide +kernel
theorem dX1_anchorMonthNow_20 : decode cX1_anchorMonthNow 20 = .ok (.irem, 1) := by decide +kernel
theorem dX1_anchorMonthNow_21 : decode cX1_anchorMonthNow 21 = .ok (.iconst 1, 1) := by decide +kernel
theorem dX1_anchorMonthNow_22 : decode cX1_anchorMonthNow 22 = .ok (.iadd, 1) := by decide +kernel
theorem dX1_anchorMonthNow_23 : decode cX1_anchorMonthNow 23 = .ok (.goto 7, 3) := by decide +kernel
theorem dX1_anchorMonthNow_26 : decode cX1_anchorMonthNow 26 = .ok (.aload_n 0, 1) := by decide +kernel
theorem dX1_anchorMonthNow_27 : decode cX1_anchorMonthNow 27 = .ok (.getfield 27, 3) := by decide +kernel
theorem dX1_anchorMonthNow_30 : decode cX1_anchorMonthNow 30 = .ok (.ireturn, 1) := by decide +kernel
set_option maxRecDepth 20000 in
theorem ggX1_countNow_X1_ides : GoodIn wsX1_countNow wsX1_ides := goodIn_r _ [7, 8, 9, 6, 10] (by decide +kernel) (by decide +kernel)
set_option maxRecDepth 20000 in
theorem gX1_countNow_X1_ides : GoodIn wsX1_countNow (va_wsS RX1 34 yX1_ides wsX1_ides) := goodIn_app (goodIn_of _ (by decide +kernel)) ggX1_countNow_X1_ides
set_option maxRecDepth 20000 in
theorem ggX1_countNow_X1_nones : GoodIn wsX1_countNow wsX1_nones := goodIn_r _ [10] (by decide +kernel) (by decide +kernel)
set_option maxRecDepth 20000 in
theorem gX1_countNow_X1_nones : GoodIn wsX1_countNow (va_wsS RX1 30 yX1_nones wsX1_nones) := goodIn_app (goodIn_of _ (by decide +kernel)) ggX1_countNow_X1_nones
set_option maxRecDepth 20000 in
theorem ggX1_countNow_X1_length : GoodIn wsX1_countNow wsX1_length := goodIn_r _ [13, 14, 15, 6, 16] (by decide +kernel) (by decide +kernel)
set_option maxRecDepth 20000 in
theorem gX1_countNow_X1_length : GoodIn wsX1_countNow (va_wsS RX1 52 yX1_length wsX1_length) := goodIn_app (goodIn_of _ (by decide +kernel)) ggX1_countNow_X1_length
theorem dX1_countNow_0 : decode cX1_countNow 0 = .ok (.aload_n 0, 1) := by decide +kernel
theorem dX1_countNow_1 : decode cX1_countNow 1 = .ok (.getfield 23, 3) := by decide +kernel
theorem dX1_countNow_4 : decode cX1_countNow 4 = .ok (.iconst 1, 1) := by decide +kernel
theorem dX1_countNow_5 : decode cX1_countNow 5 = .ok (.if_icmp .ne 5, 3) := by decide +kernel
theorem dX1_countNow_8 : decode cX1_countNow 8 = .ok (.iconst 1, 1) := by decide +kernel
theorem dX1_countNow_9 : decode cX1_countNow 9 = .ok (.ireturn, 1) := by decide +kernel
theorem dX1_countNow_10 : decode cX1_countNow 10 = .ok (.aload_n 0, 1) := by decide +kernel
theorem dX1_countNow_11 : decode cX1_countNow 11 = .ok (.getfield 23, 3) := by decide +kernel
theorem dX1_countNow_14 : decode cX1_countNow 14 = .ok (.aload_n 0, 1) := by decide +kernel
theorem dX1_countNow_15 : decode cX1_countNow 15 = .ok (.getfield 27, 3) := by decide +kernel
theorem dX1_countNow_18 : decode cX1_countNow 18 = .ok (.invokestatic 34, 3) := by decide +kernel
theorem dX1_countNow_21 : decode cX1_countNow 21 = .ok (.if_icmp .gt 42, 3) := by decide +kernel
theorem dX1_countNow_24 : decode cX1_countNow 24 = .ok (.aload_n 0, 1) := by decide +kernel
theorem dX1_countNow_25 : decode cX1_countNow 25 = .ok (.getfield 23, 3) := by decide +kernel
theorem dX1_countNow_28 : decode cX1_countNow 28 = .ok (.aload_n 0, 1) := by decide +kernel
theorem dX1_countNow_29 : decode cX1_countNow 29 = .ok (.getfield 27, 3) := by decide +kernel
theorem dX1_countNow_32 : decode cX1_countNow 32 = .ok (.invokestatic 30, 3) := by decide +kernel
theorem dX1_countNow_35 : decode cX1_countNow 35 = .ok (.if_icmp .gt 13, 3) := by decide +kernel
theorem dX1_countNow_38 : decode cX1_countNow 38 = .ok (.aload_n 0, 1) := by decide +kernel
theorem dX1_countNow_39 : decode cX1_countNow 39 = .ok (.getfield 27, 3) := by decide +kernel
theorem dX1_countNow_42 : decode cX1_countNow 42 = .ok (.invokestatic 30, 3) := by decide +kernel
theorem dX1_countNow_45 : decode cX1_countNow 45 = .ok (.goto 10, 3) := by decide +kernel
theorem dX1_countNow_48 : decode cX1_countNow 48 = .ok (.aload_n 0, 1) := by decide +kernel
theorem dX1_countNow_49 : decode cX1_countNow 49 = .ok (.getfield 27, 3) := by decide +kernel
theorem dX1_countNow_52 : decode cX1_countNow 52 = .ok (.invokestatic 34, 3) := by decide +kernel
theorem dX1_countNow_55 : decode cX1_countNow 55 = .ok (.aload_n 0, 1) := by decide +kernel
theorem dX1_countNow_56 : decode cX1_countNow 56 = .ok (.getfield 23, 3) := by decide +kernel
theorem dX1_countNow_59 : decode cX1_countNow 59 = .ok (.isub, 1) := by decide +kernel
theorem dX1_countNow_60 : decode cX1_countNow 60 = .ok (.iconst 1, 1) := by decide +kernel
theorem dX1_countNow_61 : decode cX1_countNow 61 = .ok (.iadd, 1) := by decide +kernel
theorem dX1_countNow_62 : decode cX1_countNow 62 = .ok (.ireturn, 1) := by decide +kernel
theorem dX1_countNow_63 : decode cX1_countNow 63 = .ok (.aload_n 0, 1) := by decide +kernel
theorem dX1_countNow_64 : decode cX1_countNow 64 = .ok (.getfield 27, 3) := by decide +kernel
theorem dX1_countNow_67 : decode cX1_countNow 67 = .ok (.iconst 2, 1) := by decide +kernel
theorem dX1_countNow_68 : decode cX1_countNow 68 = .ok (.if_icmp .ne 17, 3) := by decide +kernel
theorem dX1_countNow_71 : decode cX1_countNow 71 = .ok (.aload_n 0, 1) := by decide +kernel
theorem dX1_countNow_72 : decode cX1_countNow 72 = .ok (.getfield 23, 3) := by decide +kernel
theorem dX1_countNow_75 : decode cX1_countNow 75 = .ok (.bipush 24, 2) := by decide +kernel
theorem dX1_countNow_77 : decode cX1_countNow 77 = .ok (.if_icmp .gt 8, 3) := by decide +kernel
theorem dX1_countNow_80 : decode cX1_countNow 80 = .ok (.bipush 28, 2) := by decide +kernel
theorem dX1_countNow_82 : decode cX1_countNow 82 = .ok (.goto 14, 3) := by decide +kernel
theorem dX1_countNow_85 : decode cX1_countNow 85 = .ok (.aload_n 0, 1) := by decide +kernel
theorem dX1_countNow_86 : decode cX1_countNow 86 = .ok (.getfield 56, 3) := by decide +kernel
theorem dX1_countNow_89 : decode cX1_countNow 89 = .ok (.aload_n 0, 1) := by decide +kernel
theorem dX1_countNow_90 : decode cX1_countNow 90 = .ok (.getfield 27, 3) := by decide +kernel
theorem dX1_countNow_93 : decode cX1_countNow 93 = .ok (.invokestatic 52, 3) := by decide +kernel
theorem dX1_countNow_96 : decode cX1_countNow 96 = .ok (.istore_n 1, 1) := by decide +kernel
theorem dX1_countNow_97 : decode cX1_countNow 97 = .ok (.iload_n 1, 1) := by decide +kernel
theorem dX1_countNow_98 : decode cX1_countNow 98 = .ok (.aload_n 0, 1) := by decide +kernel
theorem dX1_countNow_99 : decode cX1_countNow 99 = .ok (.getfield 23, 3) := by decide +kernel
theorem dX1_countNow_102 : decode cX1_countNow 102 = .ok (.isub, 1) := by decide +kernel
theorem dX1_countNow_103 : decode cX1_countNow 103 = .ok (.iconst 2, 1) := by decide +kernel
theorem dX1_countNow_104 : decode cX1_countNow 104 = .ok (.iadd, 1) := by decide +kernel
theorem dX1_countNow_105 : decode cX1_countNow 105 = .ok (.ireturn, 1) := by decide +kernel
set_option maxRecDepth 20000 in
theorem ggX1_anchorOf_X1_isAsked : GoodIn wsX1_anchorOf wsX1_isAsked := goodIn_r _ [5, 6, 7, 4, 8, 9, 10, 11, 12, 13, 14, 15, 16, 17, 18, 19, 20, 21, 22, 23, 24, 25, 26, 27, 28, 29, 30, 31, 32, 33, 44, 45, 46, 47, 48, 49, 50, 51, 52] (by decide +kernel) (by decide +kernel)
set_option maxRecDepth 20000 in
theorem gX1_anchorOf_X1_isAsked : GoodIn wsX1_anchorOf (wsV RX1 76 RX1 yX1_isAsked wsX1_isAsked) := goodIn_app (goodIn_of _ (by decide +kernel)) ggX1_anchorOf_X1_isAsked
set_option maxRecDepth 20000 in
theorem ggX1_anchorOf_X1_anchorNow : GoodIn wsX1_anchorOf wsX1_anchorNow := goodIn_r _ [37, 24, 23, 38, 39, 4, 40, 41, 42, 43, 44, 45, 46, 47, 48, 49, 50, 51, 52] (by decide +kernel) (by decide +kernel)
set_option maxRecDepth 20000 in
theorem gX1_anchorOf_X1_anchorNow : GoodIn wsX1_anchorOf (wsV RX1 79 RX1 yX1_anchorNow wsX1_anchorNow) := goodIn_app (goodIn_of _ (by decide +kernel)) ggX1_anchorOf_X1_anchorNow
theorem dX1_anchorOf_0 : decode cX1_anchorOf 0 = .ok (.aload_n 0, 1) := by decide +kernel
theorem dX1_anchorOf_1 : decode cX1_anchorOf 1 = .ok (.iload_n 1, 1) := by decide +kernel
theorem dX1_anchorOf_2 : decode cX1_anchorOf 2 = .ok (.invokevirtual 76, 3) := by decide +kernel
theorem dX1_anchorOf_5 : decode cX1_anchorOf 5 = .ok (.ifCond .eq 10, 3) := by decide +kernel
theorem dX1_anchorOf_8 : decode cX1_anchorOf 8 = .ok (.aload_n 0, 1) := by decide +kernel
theorem dX1_anchorOf_9 : decode cX1_anchorOf 9 = .ok (.invokevirtual 79, 3) := by decide +kernel
theorem dX1_anchorOf_12 : decode cX1_anchorOf 12 = .ok (.goto 4, 3) := by decide +kernel
theorem dX1_anchorOf_15 : decode cX1_anchorOf 15 = .ok (.iconst 0, 1) := by decide +kernel
theorem dX1_anchorOf_16 : decode cX1_anchorOf 16 = .ok (.ireturn, 1) := by decide +kernel
set_option maxRecDepth 20000 in
theorem ggX1_anchorMonthOf_X1_isAsked : GoodIn wsX1_anchorMonthOf wsX1_isAsked := goodIn_r _ [5, 6, 7, 4, 8, 9, 10, 11, 12, 13, 14, 15, 16, 17, 18, 19, 20, 21, 22, 23, 24, 25, 26, 27, 28, 29, 30, 31, 32, 33, 44, 45, 46, 47, 48, 49, 50, 51, 52] (by decide +kernel) (by decide +kernel)
set_option maxRecDepth 20000 in
theorem gX1_anchorMonthOf_X1_isAsked : GoodIn wsX1_anchorMonthOf (wsV RX1 76 RX1 yX1_isAsked wsX1_isAsked) := goodIn_app (goodIn_of _ (by decide +kernel)) ggX1_anchorMonthOf_X1_isAsked
set_option maxRecDepth 20000 in
theorem ggX1_anchorMonthOf_X1_anchorMonthNow : GoodIn wsX1_anchorMonthOf wsX1_anchorMonthNow := goodIn_r _ [37, 24, 23, 38, 39, 4, 40, 41, 42, 43, 44, 45, 46, 47, 48, 49, 50, 51, 52] (by decide +kernel) (by decide +kernel)
set_option maxRecDepth 20000 in
theorem gX1_anchorMonthOf_X1_anchorMonthNow : GoodIn wsX1_anchorMonthOf (wsV RX1 83 RX1 yX1_anchorMonthNow wsX1_anchorMonthNow) := goodIn_app (goodIn_of _ (by decide +kernel)) ggX1_anchorMonthOf_X1_anchorMonthNow
theorem dX1_anchorMonthOf_0 : decode cX1_anchorMonthOf 0 = .ok (.aload_n 0, 1) := by decide +kernel
theorem dX1_anchorMonthOf_1 : decode cX1_anchorMonthOf 1 = .ok (.iload_n 1, 1) := by decide +kernel
theorem dX1_anchorMonthOf_2 : decode cX1_anchorMonthOf 2 = .ok (.invokevirtual 76, 3) := by decide +kernel
theorem dX1_anchorMonthOf_5 : decode cX1_anchorMonthOf 5 = .ok (.ifCond .eq 10, 3) := by decide +kernel
theorem dX1_anchorMonthOf_8 : decode cX1_anchorMonthOf 8 = .ok (.aload_n 0, 1) := by decide +kernel
theorem dX1_anchorMonthOf_9 : decode cX1_anchorMonthOf 9 = .ok (.invokevirtual 83, 3) := by decide +kernel
theorem dX1_anchorMonthOf_12 : decode cX1_anchorMonthOf 12 = .ok (.goto 4, 3) := by decide +kernel
theorem dX1_anchorMonthOf_15 : decode cX1_anchorMonthOf 15 = .ok (.iconst 0, 1) := by decide +kernel
theorem dX1_anchorMonthOf_16 : decode cX1_anchorMonthOf 16 = .ok (.ireturn, 1) := by decide +kernel
set_option maxRecDepth 20000 in
theorem ggX1_countOf_X1_isAsked : GoodIn wsX1_countOf wsX1_isAsked := goodIn_r _ [5, 6, 7, 4, 8, 9, 10, 11, 12, 13, 14, 15, 16, 17, 18, 19, 20, 21, 22, 23, 24, 25, 26, 27, 28, 29, 30, 31, 32, 33, 44, 45, 46, 47, 48, 49, 50, 51, 52] (by decide +kernel) (by decide +kernel)
set_option maxRecDepth 20000 in
theorem gX1_countOf_X1_isAsked : GoodIn wsX1_countOf (wsV RX1 76 RX1 yX1_isAsked wsX1_isAsked) := goodIn_app (goodIn_of _ (by decide +kernel)) ggX1_countOf_X1_isAsked
set_option maxRecDepth 20000 in
theorem ggX1_countOf_X1_countNow : GoodIn wsX1_countOf wsX1_countNow := goodIn_r _ [37, 24, 23, 22, 38, 39, 4, 40, 41, 42, 43, 28, 29, 30, 31, 32, 33, 44, 45, 46, 47, 48, 49, 50, 51, 52] (by decide +kernel) (by decide +kernel)
set_option maxRecDepth 20000 in
theorem gX1_countOf_X1_countNow : GoodIn wsX1_countOf (wsV RX1 86 RX1 yX1_countNow wsX1_countNow) := goodIn_app (goodIn_of _ (by decide +kernel)) ggX1_countOf_X1_countNow
theorem dX1_countOf_0 : decode cX1_countOf 0 = .ok (.aload_n 0, 1) := by decide +kernel
theorem dX1_countOf_1 : decode cX1_countOf 1 = .ok (.iload_n 1, 1) := by decide +kernel
theorem dX1_countOf_2 : decode cX1_countOf 2 = .ok (.invokevirtual 76, 3) := by decide +kernel
theorem dX1_countOf_5 : decode cX1_countOf 5 = .ok (.ifCond .eq 10, 3) := by decide +kernel
theorem dX1_countOf_8 : decode cX1_countOf 8 = .ok (.aload_n 0, 1) := by decide +kernel
theorem dX1_countOf_9 : decode cX1_countOf 9 = .ok (.invokevirtual 86, 3) := by decide +kernel
theorem dX1_countOf_12 : decode cX1_countOf 12 = .ok (.goto 4, 3) := by decide +kernel
theorem dX1_countOf_15 : decode cX1_countOf 15 = .ok (.iconst 0, 1) := by decide +kernel
theorem dX1_countOf_16 : decode cX1_countOf 16 = .ok (.ireturn, 1) := by decide +kernel
set_option maxRecDepth 20000 in
theorem ggX1_isDoubled_X1_isAsked : GoodIn wsX1_isDoubled wsX1_isAsked := goodIn_r _ [5, 6, 7, 4, 8, 9, 10, 11, 12, 13, 14, 15, 16, 17, 18, 19, 20, 21, 22, 23, 24, 25, 26, 27, 28, 29, 30, 31, 32, 33, 38, 39, 40, 41, 42, 43, 44, 45, 46] (by decide +kernel) (by decide +kernel)
set_option maxRecDepth 20000 in
theorem gX1_isDoubled_X1_isAsked : GoodIn wsX1_isDoubled (wsV RX1 76 RX1 yX1_isAsked wsX1_isAsked) := goodIn_app (goodIn_of _ (by decide +kernel)) ggX1_isDoubled_X1_isAsked
set_option maxRecDepth 20000 in
theorem ggX1_isDoubled_X1_isDoubledNow : GoodIn wsX1_isDoubled wsX1_isDoubledNow := goodIn_r _ [37, 22, 23, 24, 31, 32, 4, 33, 38, 39, 40, 41, 42, 43, 44, 45, 46] (by decide +kernel) (by decide +kernel)
set_option maxRecDepth 20000 in
theorem gX1_isDoubled_X1_isDoubledNow : GoodIn wsX1_isDoubled (wsV RX1 89 RX1 yX1_isDoubledNow wsX1_isDoubledNow) := goodIn_app (goodIn_of _ (by decide +kernel)) ggX1_isDoubled_X1_isDoubledNow
theorem dX1_isDoubled_0 : decode cX1_isDoubled 0 = .ok (.aload_n 0, 1) := by decide +kernel
theorem dX1_isDoubled_1 : decode cX1_isDoubled 1 = .ok (.iload_n 1, 1) := by decide +kernel
theorem dX1_isDoubled_2 : decode cX1_isDoubled 2 = .ok (.invokevirtual 76, 3) := by decide +kernel
theorem dX1_isDoubled_5 : decode cX1_isDoubled 5 = .ok (.ifCond .eq 14, 3) := by decide +kernel
theorem dX1_isDoubled_8 : decode cX1_isDoubled 8 = .ok (.aload_n 0, 1) := by decide +kernel
theorem dX1_isDoubled_9 : decode cX1_isDoubled 9 = .ok (.invokevirtual 89, 3) := by decide +kernel
theorem dX1_isDoubled_12 : decode cX1_isDoubled 12 = .ok (.ifCond .eq 7, 3) := by decide +kernel
theorem dX1_isDoubled_15 : decode cX1_isDoubled 15 = .ok (.iconst 1, 1) := by decide +kernel
theorem dX1_isDoubled_16 : decode cX1_isDoubled 16 = .ok (.goto 4, 3) := by decide +kernel
theorem dX1_isDoubled_19 : decode cX1_isDoubled 19 = .ok (.iconst 0, 1) := by decide +kernel
theorem dX1_isDoubled_20 : decode cX1_isDoubled 20 = .ok (.ireturn, 1) := by decide +kernel
set_option maxRecDepth 20000 in
theorem ggX1_told_X1_begin : GoodIn wsX1_told wsX1_begin := goodIn_r _ [4] (by decide +kernel) (by decide +kernel)
set_option maxRecDepth 20000 in
theorem gX1_told_X1_begin : GoodIn wsX1_told (va_wsS RX1 49 yX1_begin wsX1_begin) := goodIn_app (goodIn_of _ (by decide +kernel)) ggX1_told_X1_begin
set_option maxRecDepth 20000 in
theorem ggX1_told_X1_splits : GoodIn wsX1_told wsX1_splits := goodIn_r _ [8, 9, 10, 11, 1, 2, 3, 4, 12, 13, 14, 15, 16, 17, 40, 41, 42, 43, 44, 45, 46, 47, 48] (by decide +kernel) (by decide +kernel)
set_option maxRecDepth 20000 in
theorem gX1_told_X1_splits : GoodIn wsX1_told (wsV RX1 19 RX1 yX1_splits wsX1_splits) := goodIn_app (goodIn_of _ (by decide +kernel)) ggX1_told_X1_splits
set_option maxRecDepth 20000 in
theorem ggX1_told_X1_anchorNow : GoodIn wsX1_told wsX1_anchorNow := goodIn_r _ [21, 11, 10, 22, 23, 3, 24, 25, 26, 27, 40, 41, 42, 43, 44, 45, 46, 47, 48] (by decide +kernel) (by decide +kernel)
set_option maxRecDepth 20000 in
theorem gX1_told_X1_anchorNow : GoodIn wsX1_told (wsV RX1 79 RX1 yX1_anchorNow wsX1_anchorNow) := goodIn_app (goodIn_of _ (by decide +kernel)) ggX1_told_X1_anchorNow
set_option maxRecDepth 20000 in
theorem ggX1_told_X1_anchorMonthNow : GoodIn wsX1_told wsX1_anchorMonthNow := goodIn_r _ [31, 11, 10, 22, 23, 3, 24, 25, 26, 27, 40, 41, 42, 43, 44, 45, 46, 47, 48] (by decide +kernel) (by decide +kernel)
set_option maxRecDepth 20000 in
theorem gX1_told_X1_anchorMonthNow : GoodIn wsX1_told (wsV RX1 83 RX1 yX1_anchorMonthNow wsX1_anchorMonthNow) := goodIn_app (goodIn_of _ (by decide +kernel)) ggX1_told_X1_anchorMonthNow
set_option maxRecDepth 20000 in
theorem ggX1_told_X1_countNow : GoodIn wsX1_told wsX1_countNow := goodIn_r _ [35, 11, 10, 9, 22, 23, 3, 24, 25, 26, 27, 12, 13, 14, 15, 16, 17, 40, 41, 42, 43, 44, 45, 46, 47, 48] (by decide +kernel) (by decide +kernel)
set_option maxRecDepth 20000 in
theorem gX1_told_X1_countNow : GoodIn wsX1_told (wsV RX1 86 RX1 yX1_countNow wsX1_countNow) := goodIn_app (goodIn_of _ (by decide +kernel)) ggX1_told_X1_countNow
set_option maxRecDepth 20000 in
theorem ggX1_told_X1_isDoubledNow : GoodIn wsX1_told wsX1_isDoubledNow := goodIn_r _ [39, 9, 10, 11, 15, 16, 3, 17, 40, 41, 42, 43, 44, 45, 46, 47, 48] (by decide +kernel) (by decide +kernel)
set_option maxRecDepth 20000 in
theorem gX1_told_X1_isDoubledNow : GoodIn wsX1_told (wsV RX1 89 RX1 yX1_isDoubledNow wsX1_isDoubledNow) := goodIn_app (goodIn_of _ (by decide +kernel)) ggX1_told_X1_isDoubledNow
theorem dX1_told_0 : decode cX1_told 0 = .ok (.iload_n 1, 1) := by decide +kernel
theorem dX1_told_1 : decode cX1_told 1 = .ok (.invokestatic 49, 3) := by decide +kernel
theorem dX1_told_4 : decode cX1_told 4 = .ok (.istore 6, 2) := by decide +kernel
theorem dX1_told_6 : decode cX1_told 6 = .ok (.iload 6, 2) := by decide +kernel
theorem dX1_told_8 : decode cX1_told 8 = .ok (.iload_n 1, 1) := by decide +kernel
theorem dX1_told_9 : decode cX1_told 9 = .ok (.iconst 1, 1) := by decide +kernel
theorem dX1_told_10 : decode cX1_told 10 = .ok (.iadd, 1) := by decide +kernel
theorem dX1_told_11 : decode cX1_told 11 = .ok (.invokestatic 49, 3) := by decide +kernel
theorem dX1_told_14 : decode cX1_told 14 = .ok (.if_icmp .ge 52, 3) := by decide +kernel
theorem dX1_told_17 : decode cX1_told 17 = .ok (.aload_n 0, 1) := by decide +kernel
theorem dX1_told_18 : decode cX1_told 18 = .ok (.iload 6, 2) := by decide +kernel
theorem dX1_told_20 : decode cX1_told 20 = .ok (.invokevirtual 19, 3) := by decide +kernel
theorem dX1_told_23 : decode cX1_told 23 = .ok (.aload_n 0, 1) := by decide +kernel
theorem dX1_told_24 : decode cX1_told 24 = .ok (.invokevirtual 79, 3) := by decide +kernel
theorem dX1_told_27 : decode cX1_told 27 = .ok (.iload_n 3, 1) := by decide +kernel
theorem dX1_told_28 : decode cX1_told 28 = .ok (.if_icmp .ne 32, 3) := by decide +kernel
theorem dX1_told_31 : decode cX1_told 31 = .ok (.aload_n 0, 1) := by decide +kernel
theorem dX1_told_32 : decode cX1_told 32 = .ok (.invokevirtual 83, 3) := by decide +kernel
theorem dX1_told_35 : decode cX1_told 35 = .ok (.iload_n 2, 1) := by decide +kernel
theorem dX1_told_36 : decode cX1_told 36 = .ok (.if_icmp .ne 24, 3) := by decide +kernel
theorem dX1_told_39 : decode cX1_told 39 = .ok (.aload_n 0, 1) := by decide +kernel
theorem dX1_told_40 : decode cX1_told 40 = .ok (.invokevirtual 86, 3) := by decide +kernel
theorem dX1_told_43 : decode cX1_told 43 = .ok (.iload 4, 2) := by decide +kernel
theorem dX1_told_45 : decode cX1_told 45 = .ok (.if_icmp .ne 15, 3) := by decide +kernel
theorem dX1_told_48 : decode cX1_told 48 = .ok (.aload_n 0, 1) := by decide +kernel
theorem dX1_told_49 : decode cX1_told 49 = .ok (.invokevirtual 89, 3) := by decide +kernel
theorem dX1_told_52 : decode cX1_told 52 = .ok (.iload 5, 2) := by decide +kernel
theorem dX1_told_54 : decode cX1_told 54 = .ok (.if_icmp .ne 6, 3) := by decide +kernel
theorem dX1_told_57 : decode cX1_told 57 = .ok (.iload 6, 2) := by decide +kernel
theorem dX1_told_59 : decode cX1_told 59 = .ok (.ireturn, 1) := by decide +kernel
theorem dX1_told_60 : decode cX1_told 60 = .ok (.iinc 6 1, 3) := by decide +kernel
theorem dX1_told_63 : decode cX1_told 63 = .ok (.goto (-57), 3) := by decide +kernel
theorem dX1_told_66 : decode cX1_told 66 = .ok (.iconst (-1), 1) := by decide +kernel
theorem dX1_told_67 : decode cX1_told 67 = .ok (.ireturn, 1) := by decide +kernel
set_option maxRecDepth 20000 in
theorem ggX1_fromCount_X1_isYear : GoodIn wsX1_fromCount wsX1_isYear := goodIn_r _ [4, 5, 6, 3, 7] (by decide +kernel) (by decide +kernel)
set_option maxRecDepth 20000 in
theorem gX1_fromCount_X1_isYear : GoodIn wsX1_fromCount (va_wsS RX1 66 yX1_isYear wsX1_isYear) := goodIn_app (goodIn_of _ (by decide +kernel)) ggX1_fromCount_X1_isYear
set_option maxRecDepth 20000 in
theorem ggX1_fromCount_X1_isIn : GoodIn wsX1_fromCount wsX1_isIn := goodIn_r _ [7] (by decide +kernel) (by decide +kernel)
set_option maxRecDepth 20000 in
theorem gX1_fromCount_X1_isIn : GoodIn wsX1_fromCount (va_wsS RX1 40 yX1_isIn wsX1_isIn) := goodIn_app (goodIn_of _ (by decide +kernel)) ggX1_fromCount_X1_isIn
set_option maxRecDepth 20000 in
theorem ggX1_fromCount_X1_told : GoodIn wsX1_fromCount wsX1_told := goodIn_r _ [11, 12, 13, 3, 14, 15, 16, 17, 18, 19, 20, 21, 22, 23, 24, 25, 26, 27, 28, 29, 30, 31, 32, 33, 34, 35, 36, 37, 38, 39, 40, 41, 42, 43, 44, 45, 46, 47, 48, 49, 55, 56, 57, 58, 59, 60, 61, 62, 63] (by decide +kernel) (by decide +kernel)
set_option maxRecDepth 20000 in
theorem gX1_fromCount_X1_told : GoodIn wsX1_fromCount (wsV RX1 93 RX1 yX1_told wsX1_told) := goodIn_app (goodIn_of _ (by decide +kernel)) ggX1_fromCount_X1_told
set_option maxRecDepth 20000 in
theorem ggX1_fromCount_X1_isFine : GoodIn wsX1_fromCount wsX1_isFine := goodIn_r _ [53, 54, 55, 56, 57, 58, 59, 60, 61, 62, 63] (by decide +kernel) (by decide +kernel)
set_option maxRecDepth 20000 in
theorem gX1_fromCount_X1_isFine : GoodIn wsX1_fromCount (wsV RX1 62 RX1 yX1_isFine wsX1_isFine) := goodIn_app (goodIn_of _ (by decide +kernel)) ggX1_fromCount_X1_isFine
theorem dX1_fromCount_0 : decode cX1_fromCount 0 = .ok (.iload_n 1, 1) := by decide +kernel
theorem dX1_fromCount_1 : decode cX1_fromCount 1 = .ok (.invokestatic 66, 3) := by decide +kernel
theorem dX1_fromCount_4 : decode cX1_fromCount 4 = .ok (.ifCond .eq 17, 3) := by decide +kernel
theorem dX1_fromCount_7 : decode cX1_fromCount 7 = .ok (.iload_n 2, 1) := by decide +kernel
theorem dX1_fromCount_8 : decode cX1_fromCount 8 = .ok (.iconst 1, 1) := by decide +kernel
theorem dX1_fromCount_9 : decode cX1_fromCount 9 = .ok (.bipush 12, 2) := by decide +kernel
theorem dX1_fromCount_11 : decode cX1_fromCount 11 = .ok (.invokestatic 40, 3) := by decide +kernel
theorem dX1_fromCount_14 : decode cX1_fromCount 14 = .ok (.ifCond .eq 7, 3) := by decide +kernel
theorem dX1_fromCount_17 : decode cX1_fromCount 17 = .ok (.iconst 1, 1) := by decide +kernel
theorem dX1_fromCount_18 : decode cX1_fromCount 18 = .ok (.goto 4, 3) := by decide +kernel
theorem dX1_fromCount_21 : decode cX1_fromCount 21 = .ok (.iconst 0, 1) := by decide +kernel
theorem dX1_fromCount_22 : decode cX1_fromCount 22 = .ok (.istore 6, 2) := by decide +kernel
theorem dX1_fromCount_24 : decode cX1_fromCount 24 = .ok (.iload_n 3, 1) := by decide +kernel
theorem dX1_fromCount_25 : decode cX1_fromCount 25 = .ok (.iconst 0, 1) := by decide +kernel
theorem dX1_fromCount_26 : decode cX1_fromCount 26 = .ok (.iconst 2, 1) := by decide +kernel
theorem dX1_fromCount_27 : decode cX1_fromCount 27 = .ok (.invokestatic 40, 3) := by decide +kernel
theorem dX1_fromCount_30 : decode cX1_fromCount 30 = .ok (.ifCond .eq 13, 3) := by decide +kernel
theorem dX1_fromCount_33 : decode cX1_fromCount 33 = .ok (.iload 4, 2) := by decide +kernel
theorem dX1_fromCount_35 : decode cX1_fromCount 35 = .ok (.iconst 1, 1) := by decide +kernel
theorem dX1_fromCount_36 : decode cX1_fromCount 36 = .ok (.if_icmp .lt 7, 3) := by decide +kernel
theorem dX1_fromCount_39 : decode cX1_fromCount 39 = .ok (.iconst 1, 1) := by decide +kernel
theorem dX1_fromCount_40 : decode cX1_fromCount 40 = .ok (.goto 4, 3) := by decide +kernel
theorem dX1_fromCount_43 : decode cX1_fromCount 43 = .ok (.iconst 0, 1) := by decide +kernel
theorem dX1_fromCount_44 : decode cX1_fromCount 44 = .ok (.istore 7, 2) := by decide +kernel
theorem dX1_fromCount_46 : decode cX1_fromCount 46 = .ok (.iload 6, 2) := by decide +kernel
theorem dX1_fromCount_48 : decode cX1_fromCount 48 = .ok (.ifCond .eq 22, 3) := by decide +kernel
theorem dX1_fromCount_51 : decode cX1_fromCount 51 = .ok (.iload 7, 2) := by decide +kernel
theorem dX1_fromCount_53 : decode cX1_fromCount 53 = .ok (.ifCond .eq 17, 3) := by decide +kernel
theorem dX1_fromCount_56 : decode cX1_fromCount 56 = .ok (.aload_n 0, 1) := by decide +kernel
theorem dX1_fromCount_57 : decode cX1_fromCount 57 = .ok (.iload_n 1, 1) := by decide +kernel
theorem dX1_fromCount_58 : decode cX1_fromCount 58 = .ok (.iload_n 2, 1) := by decide +kernel
theorem dX1_fromCount_59 : decode cX1_fromCount 59 = .ok (.iload_n 3, 1) := by decide +kernel
theorem dX1_fromCount_60 : decode cX1_fromCount 60 = .ok (.iload 4, 2) := by decide +kernel
theorem dX1_fromCount_62 : decode cX1_fromCount 62 = .ok (.iload 5, 2) := by decide +kernel
theorem dX1_fromCount_64 : decode cX1_fromCount 64 = .ok (.invokevirtual 93, 3) := by decide +kernel
theorem dX1_fromCount_67 : decode cX1_fromCount 67 = .ok (.goto 4, 3) := by decide +kernel
theorem dX1_fromCount_70 : decode cX1_fromCount 70 = .ok (.iconst (-1), 1) := by decide +kernel
theorem dX1_fromCount_71 : decode cX1_fromCount 71 = .ok (.istore 8, 2) := by decide +kernel
theorem dX1_fromCount_73 : decode cX1_fromCount 73 = .ok (.aload_n 0, 1) := by decide +kernel
theorem dX1_fromCount_74 : decode cX1_fromCount 74 = .ok (.iload 6, 2) := by decide +kernel
theorem dX1_fromCount_76 : decode cX1_fromCount 76 = .ok (.ifCond .ne 7, 3) := by decide +kernel
theorem dX1_fromCount_79 : decode cX1_fromCount 79 = .ok (.iconst 1, 1) := by decide +kernel
theorem dX1_fromCount_80 : decode cX1_fromCount 80 = .ok (.goto 23, 3) := by decide +kernel
theorem dX1_fromCount_83 : decode cX1_fromCount 83 = .ok (.iload 7, 2) := by decide +kernel
theorem dX1_fromCount_85 : decode cX1_fromCount 85 = .ok (.ifCond .ne 7, 3) := by decide +kernel
theorem dX1_fromCount_88 : decode cX1_fromCount 88 = .ok (.iconst 2, 1) := by decide +kernel
theorem dX1_fromCount_89 : decode cX1_fromCount 89 = .ok (.goto 14, 3) := by decide +kernel
theorem dX1_fromCount_92 : decode cX1_fromCount 92 = .ok (.iload 8, 2) := by decide +kernel
theorem dX1_fromCount_94 : decode cX1_fromCount 94 = .ok (.iconst (-1), 1) := by decide +kernel
theorem dX1_fromCount_95 : decode cX1_fromCount 95 = .ok (.if_icmp .ne 7, 3) := by decide +kernel
theorem dX1_fromCount_98 : decode cX1_fromCount 98 = .ok (.iconst 3, 1) := by decide +kernel
theorem dX1_fromCount_99 : decode cX1_fromCount 99 = .ok (.goto 4, 3) := by decide +kernel
theorem dX1_fromCount_102 : decode cX1_fromCount 102 = .ok (.iconst 0, 1) := by decide +kernel
theorem dX1_fromCount_103 : decode cX1_fromCount 103 = .ok (.invokevirtual 62, 3) := by decide +kernel
theorem dX1_fromCount_106 : decode cX1_fromCount 106 = .ok (.ifCond .eq 8, 3) := by decide +kernel
theorem dX1_fromCount_109 : decode cX1_fromCount 109 = .ok (.iload 8, 2) := by decide +kernel
theorem dX1_fromCount_111 : decode cX1_fromCount 111 = .ok (.goto 4, 3) := by decide +kernel
theorem dX1_fromCount_114 : decode cX1_fromCount 114 = .ok (.iconst 0, 1) := by decide +kernel
theorem dX1_fromCount_115 : decode cX1_fromCount 115 = .ok (.ireturn, 1) := by decide +kernel
set_option maxRecDepth 20000 in
theorem ggX1_greatestCount_X1_isYear : GoodIn wsX1_greatestCount wsX1_isYear := goodIn_r _ [4, 5, 6, 3, 7] (by decide +kernel) (by decide +kernel)
set_option maxRecDepth 20000 in
theorem gX1_greatestCount_X1_isYear : GoodIn wsX1_greatestCount (va_wsS RX1 66 yX1_isYear wsX1_isYear) := goodIn_app (goodIn_of _ (by decide +kernel)) ggX1_greatestCount_X1_isYear
set_option maxRecDepth 20000 in
theorem ggX1_greatestCount_X1_isIn : GoodIn wsX1_greatestCount wsX1_isIn := goodIn_r _ [7] (by decide +kernel) (by decide +kernel)
set_option maxRecDepth 20000 in
theorem gX1_greatestCount_X1_isIn : GoodIn wsX1_greatestCount (va_wsS RX1 40 yX1_isIn wsX1_isIn) := goodIn_app (goodIn_of _ (by decide +kernel)) ggX1_greatestCount_X1_isIn
set_option maxRecDepth 20000 in
theorem ggX1_greatestCount_X1_isFine : GoodIn wsX1_greatestCount wsX1_isFine := goodIn_r _ [11, 12, 47, 48, 49, 50, 51, 52, 53, 54, 55] (by decide +kernel) (by decide +kernel)
set_option maxRecDepth 20000 in
theorem gX1_greatestCount_X1_isFine : GoodIn wsX1_greatestCount (wsV RX1 62 RX1 yX1_isFine wsX1_isFine) := goodIn_app (goodIn_of _ (by decide +kernel)) ggX1_greatestCount_X1_isFine
set_option maxRecDepth 20000 in
theorem ggX1_greatestCount_X1_begin : GoodIn wsX1_greatestCount wsX1_begin := goodIn_r _ [15] (by decide +kernel) (by decide +kernel)
set_option maxRecDepth 20000 in
theorem gX1_greatestCount_X1_begin : GoodIn wsX1_greatestCount (va_wsS RX1 49 yX1_begin wsX1_begin) := goodIn_app (goodIn_of _ (by decide +kernel)) ggX1_greatestCount_X1_begin
set_option maxRecDepth 20000 in
theorem ggX1_greatestCount_X1_splits : GoodIn wsX1_greatestCount wsX1_splits := goodIn_r _ [19, 20, 21, 22, 13, 14, 3, 15, 23, 24, 25, 26, 27, 28, 47, 48, 49, 50, 51, 52, 53, 54, 55] (by decide +kernel) (by decide +kernel)
set_option maxRecDepth 20000 in
theorem gX1_greatestCount_X1_splits : GoodIn wsX1_greatestCount (wsV RX1 19 RX1 yX1_splits wsX1_splits) := goodIn_app (goodIn_of _ (by decide +kernel)) ggX1_greatestCount_X1_splits
set_option maxRecDepth 20000 in
theorem ggX1_greatestCount_X1_anchorNow : GoodIn wsX1_greatestCount wsX1_anchorNow := goodIn_r _ [32, 22, 21, 33, 34, 3, 35, 36, 37, 38, 47, 48, 49, 50, 51, 52, 53, 54, 55] (by decide +kernel) (by decide +kernel)
set_option maxRecDepth 20000 in
theorem gX1_greatestCount_X1_anchorNow : GoodIn wsX1_greatestCount (wsV RX1 79 RX1 yX1_anchorNow wsX1_anchorNow) := goodIn_app (goodIn_of _ (by decide +kernel)) ggX1_greatestCount_X1_anchorNow
set_option maxRecDepth 20000 in
theorem ggX1_greatestCount_X1_anchorMonthNow : GoodIn wsX1_greatestCount wsX1_anchorMonthNow := goodIn_r _ [42, 22, 21, 33, 34, 3, 35, 36, 37, 38, 47, 48, 49, 50, 51, 52, 53, 54, 55] (by decide +kernel) (by decide +kernel)
set_option maxRecDepth 20000 in
theorem gX1_greatestCount_X1_anchorMonthNow : GoodIn wsX1_greatestCount (wsV RX1 83 RX1 yX1_anchorMonthNow wsX1_anchorMonthNow) := goodIn_app (goodIn_of _ (by decide +kernel)) ggX1_greatestCount_X1_anchorMonthNow
set_option maxRecDepth 20000 in
theorem ggX1_greatestCount_X1_countNow : GoodIn wsX1_greatestCount wsX1_countNow := goodIn_r _ [46, 22, 21, 20, 33, 34, 3, 35, 36, 37, 38, 23, 24, 25, 26, 27, 28, 47, 48, 49, 50, 51, 52, 53, 54, 55] (by decide +kernel) (by decide +kernel)
set_option maxRecDepth 20000 in
theorem gX1_greatestCount_X1_countNow : GoodIn wsX1_greatestCount (wsV RX1 86 RX1 yX1_countNow wsX1_countNow) := goodIn_app (goodIn_of _ (by decide +kernel)) ggX1_greatestCount_X1_countNow
theorem dX1_greatestCount_0 : decode cX1_greatestCount 0 = .ok (.aload_n 0, 1) := by decide +kernel
theorem dX1_greatestCount_1 : decode cX1_greatestCount 1 = .ok (.iload_n 1, 1) := by decide +kernel
theorem dX1_greatestCount_2 : decode cX1_greatestCount 2 = .ok (.invokestatic 66, 3) := by decide +kernel
theorem dX1_greatestCount_5 : decode cX1_greatestCount 5 = .ok (.ifCond .eq 13, 3) := by decide +kernel
theorem dX1_greatestCount_8 : decode cX1_greatestCount 8 = .ok (.iload_n 2, 1) := by decide +kernel
theorem dX1_greatestCount_9 : decode cX1_greatestCount 9 = .ok (.iconst 1, 1) := by decide +kernel
theorem dX1_greatestCount_10 : decode cX1_greatestCount 10 = .ok (.bipush 12, 2) := by decide +kernel
theorem dX1_greatestCount_12 : decode cX1_greatestCount 12 = .ok (.invokestatic 40, 3) := by decide +kernel
theorem dX1_greatestCount_15 : decode cX1_greatestCount 15 = .ok (.ifCond .ne 7, 3) := by decide +kernel
theorem dX1_greatestCount_18 : decode cX1_greatestCount 18 = .ok (.iconst 1, 1) := by decide +kernel
theorem dX1_greatestCount_19 : decode cX1_greatestCount 19 = .ok (.goto 17, 3) := by decide +kernel
theorem dX1_greatestCount_22 : decode cX1_greatestCount 22 = .ok (.iload_n 3, 1) := by decide +kernel
theorem dX1_greatestCount_23 : decode cX1_greatestCount 23 = .ok (.iconst 0, 1) := by decide +kernel
theorem dX1_greatestCount_24 : decode cX1_greatestCount 24 = .ok (.iconst 2, 1) := by decide +kernel
theorem dX1_greatestCount_25 : decode cX1_greatestCount 25 = .ok (.invokestatic 40, 3) := by decide +kernel
theorem dX1_greatestCount_28 : decode cX1_greatestCount 28 = .ok (.ifCond .ne 7, 3) := by decide +kernel
theorem dX1_greatestCount_31 : decode cX1_greatestCount 31 = .ok (.iconst 2, 1) := by decide +kernel
theorem dX1_greatestCount_32 : decode cX1_greatestCount 32 = .ok (.goto 4, 3) := by decide +kernel
theorem dX1_greatestCount_35 : decode cX1_greatestCount 35 = .ok (.iconst 0, 1) := by decide +kernel
theorem dX1_greatestCount_36 : decode cX1_greatestCount 36 = .ok (.invokevirtual 62, 3) := by decide +kernel
theorem dX1_greatestCount_39 : decode cX1_greatestCount 39 = .ok (.ifCond .ne 5, 3) := by decide +kernel
theorem dX1_greatestCount_42 : decode cX1_greatestCount 42 = .ok (.iconst 0, 1) := by decide +kernel
theorem dX1_greatestCount_43 : decode cX1_greatestCount 43 = .ok (.ireturn, 1) := by decide +kernel
theorem dX1_greatestCount_44 : decode cX1_greatestCount 44 = .ok (.iconst 0, 1) := by decide +kernel
theorem dX1_greatestCount_45 : decode cX1_greatestCount 45 = .ok (.istore 4, 2) := by decide +kernel
theorem dX1_greatestCount_47 : decode cX1_greatestCount 47 = .ok (.iload_n 1, 1) := by decide +kernel
theorem dX1_greatestCount_48 : decode cX1_greatestCount 48 = .ok (.invokestatic 49, 3) := by decide +kernel
theorem dX1_greatestCount_51 : decode cX1_greatestCount 51 = .ok (.istore 5, 2) := by decide +kernel
theorem dX1_greatestCount_53 : decode cX1_greatestCount 53 = .ok (.iload 5, 2) := by decide +kernel
theorem dX1_greatestCount_55 : decode cX1_greatestCount 55 = .ok (.iload_n 1, 1) := by decide +kernel
theorem dX1_greatestCount_56 : decode cX1_greatestCount 56 = .ok (.iconst 1, 1) := by decide +kernel
theorem dX1_greatestCount_57 : decode cX1_greatestCount 57 = .ok (.iadd, 1) := by decide +kernel
theorem dX1_greatestCount_58 : decode cX1_greatestCount 58 = .ok (.invokestatic 49, 3) := by decide +kernel
theorem dX1_greatestCount_61 : decode cX1_greatestCount 61 = .ok (.if_icmp .ge 51, 3) := by decide +kernel
theorem dX1_greatestCount_64 : decode cX1_greatestCount 64 = .ok (.aload_n 0, 1) := by decide +kernel
theorem dX1_greatestCount_65 : decode cX1_greatestCount 65 = .ok (.iload 5, 2) := by decide +kernel
theorem dX1_greatestCount_67 : decode cX1_greatestCount 67 = .ok (.invokevirtual 19, 3) := by decide +kernel
theorem dX1_greatestCount_70 : decode cX1_greatestCount 70 = .ok (.aload_n 0, 1) := by decide +kernel
theorem dX1_greatestCount_71 : decode cX1_greatestCount 71 = .ok (.invokevirtual 79, 3) := by decide +kernel
theorem dX1_greatestCount_74 : decode cX1_greatestCount 74 = .ok (.iload_n 3, 1) := by decide +kernel
theorem dX1_greatestCount_75 : decode cX1_greatestCount 75 = .ok (.if_icmp .ne 27, 3) := by decide +kernel
theorem dX1_greatestCount_78 : decode cX1_greatestCount 78 = .ok (.aload_n 0, 1) := by decide +kernel
theorem dX1_greatestCount_79 : decode cX1_greatestCount 79 = .ok (.invokevirtual 83, 3) := by decide +kernel
theorem dX1_greatestCount_82 : decode cX1_greatestCount 82 = .ok (.iload_n 2, 1) := by decide +kernel
theorem dX1_greatestCount_83 : decode cX1_greatestCount 83 = .ok (.if_icmp .ne 19, 3) := by decide +kernel
theorem dX1_greatestCount_86 : decode cX1_greatestCount 86 = .ok (.aload_n 0, 1) := by decide +kernel
theorem dX1_greatestCount_87 : decode cX1_greatestCount 87 = .ok (.invokevirtual 86, 3) := by decide +kernel
theorem dX1_greatestCount_90 : decode cX1_greatestCount 90 = .ok (.iload 4, 2) := by decide +kernel
theorem dX1_greatestCount_92 : decode cX1_greatestCount 92 = .ok (.if_icmp .le 10, 3) := by decide +kernel
theorem dX1_greatestCount_95 : decode cX1_greatestCount 95 = .ok (.aload_n 0, 1) := by decide +kernel
theorem dX1_greatestCount_96 : decode cX1_greatestCount 96 = .ok (.invokevirtual 86, 3) := by decide +kernel
theorem dX1_greatestCount_99 : decode cX1_greatestCount 99 = .ok (.goto 5, 3) := by decide +kernel
theorem dX1_greatestCount_102 : decode cX1_greatestCount 102 = .ok (.iload 4, 2) := by decide +kernel
theorem dX1_greatestCount_104 : decode cX1_greatestCount 104 = .ok (.istore 4, 2) := by decide +kernel
theorem dX1_greatestCount_106 : decode cX1_greatestCount 106 = .ok (.iinc 5 1, 3) := by decide +kernel
theorem dX1_greatestCount_109 : decode cX1_greatestCount 109 = .ok (.goto (-56), 3) := by decide +kernel
theorem dX1_greatestCount_112 : decode cX1_greatestCount 112 = .ok (.iload 4, 2) := by decide +kernel
theorem dX1_greatestCount_114 : decode cX1_greatestCount 114 = .ok (.ireturn, 1) := by decide +kernel
set_option maxRecDepth 20000 in
theorem ggX1_lawful_X1_splits : GoodIn wsX1_lawful wsX1_splits := goodIn_r _ [8, 1, 2, 3, 9, 10, 7, 11, 12, 13, 14, 15, 16, 17, 18, 19, 20, 21, 22, 23, 24, 25, 26] (by decide +kernel) (by decide +kernel)
set_option maxRecDepth 20000 in
theorem gX1_lawful_X1_splits : GoodIn wsX1_lawful (wsV RX1 19 RX1 yX1_splits wsX1_splits) := goodIn_app (goodIn_of _ (by decide +kernel)) ggX1_lawful_X1_splits
set_option maxRecDepth 20000 in
theorem ggX1_lawful_X1_isLeap : GoodIn wsX1_lawful wsX1_isLeap := goodIn_r _ [17] (by decide +kernel) (by decide +kernel)
set_option maxRecDepth 20000 in
theorem gX1_lawful_X1_isLeap : GoodIn wsX1_lawful (va_wsS RX1 45 yX1_isLeap wsX1_isLeap) := goodIn_app (goodIn_of _ (by decide +kernel)) ggX1_lawful_X1_isLeap
theorem dX1_lawful_0 : decode cX1_lawful 0 = .ok (.aload_n 0, 1) := by decide +kernel
theorem dX1_lawful_1 : decode cX1_lawful 1 = .ok (.iload_n 1, 1) := by decide +kernel
theorem dX1_lawful_2 : decode cX1_lawful 2 = .ok (.invokevirtual 19, 3) := by decide +kernel
theorem dX1_lawful_5 : decode cX1_lawful 5 = .ok (.aload_n 0, 1) := by decide +kernel
theorem dX1_lawful_6 : decode cX1_lawful 6 = .ok (.getfield 56, 3) := by decide +kernel
theorem dX1_lawful_9 : decode cX1_lawful 9 = .ok (.invokestatic 45, 3) := by decide +kernel
theorem dX1_lawful_12 : decode cX1_lawful 12 = .ok (.ifCond .eq 32, 3) := by decide +kernel
theorem dX1_lawful_15 : decode cX1_lawful 15 = .ok (.aload_n 0, 1) := by decide +kernel
theorem dX1_lawful_16 : decode cX1_lawful 16 = .ok (.getfield 27, 3) := by decide +kernel
theorem dX1_lawful_19 : decode cX1_lawful 19 = .ok (.iconst 2, 1) := by decide +kernel
theorem dX1_lawful_20 : decode cX1_lawful 20 = .ok (.if_icmp .gt 20, 3) := by decide +kernel
theorem dX1_lawful_23 : decode cX1_lawful 23 = .ok (.aload_n 0, 1) := by decide +kernel
theorem dX1_lawful_24 : decode cX1_lawful 24 = .ok (.getfield 27, 3) := by decide +kernel
theorem dX1_lawful_27 : decode cX1_lawful 27 = .ok (.iconst 2, 1) := by decide +kernel
theorem dX1_lawful_28 : decode cX1_lawful 28 = .ok (.if_icmp .ne 16, 3) := by decide +kernel
theorem dX1_lawful_31 : decode cX1_lawful 31 = .ok (.aload_n 0, 1) := by decide +kernel
theorem dX1_lawful_32 : decode cX1_lawful 32 = .ok (.getfield 23, 3) := by decide +kernel
theorem dX1_lawful_35 : decode cX1_lawful 35 = .ok (.bipush 24, 2) := by decide +kernel
theorem dX1_lawful_37 : decode cX1_lawful 37 = .ok (.if_icmp .le 7, 3) := by decide +kernel
theorem dX1_lawful_40 : decode cX1_lawful 40 = .ok (.iconst 1, 1) := by decide +kernel
theorem dX1_lawful_41 : decode cX1_lawful 41 = .ok (.goto 4, 3) := by decide +kernel
theorem dX1_lawful_44 : decode cX1_lawful 44 = .ok (.iconst 0, 1) := by decide +kernel
theorem dX1_lawful_45 : decode cX1_lawful 45 = .ok (.istore_n 2, 1) := by decide +kernel
theorem dX1_lawful_46 : decode cX1_lawful 46 = .ok (.iload_n 1, 1) := by decide +kernel
theorem dX1_lawful_47 : decode cX1_lawful 47 = .ok (.aload_n 0, 1) := by decide +kernel
theorem dX1_lawful_48 : decode cX1_lawful 48 = .ok (.getfield 56, 3) := by decide +kernel
theorem dX1_lawful_51 : decode cX1_lawful 51 = .ok (.iconst 1, 1) := by decide +kernel
theorem dX1_lawful_52 : decode cX1_lawful 52 = .ok (.isub, 1) := by decide +kernel
theorem dX1_lawful_53 : decode cX1_lawful 53 = .ok (.iconst 4, 1) := by decide +kernel
theorem dX1_lawful_54 : decode cX1_lawful 54 = .ok (.idiv, 1) := by decide +kernel
theorem dX1_lawful_55 : decode cX1_lawful 55 = .ok (.isub, 1) := by decide +kernel
theorem dX1_lawful_56 : decode cX1_lawful 56 = .ok (.iload_n 2, 1) := by decide +kernel
theorem dX1_lawful_57 : decode cX1_lawful 57 = .ok (.ifCond .eq 7, 3) := by decide +kernel
theorem dX1_lawful_60 : decode cX1_lawful 60 = .ok (.iconst 1, 1) := by decide +kernel
theorem dX1_lawful_61 : decode cX1_lawful 61 = .ok (.goto 4, 3) := by decide +kernel
theorem dX1_lawful_64 : decode cX1_lawful 64 = .ok (.iconst 0, 1) := by decide +kernel
theorem dX1_lawful_65 : decode cX1_lawful 65 = .ok (.isub, 1) := by decide +kernel
theorem dX1_lawful_66 : decode cX1_lawful 66 = .ok (.ireturn, 1) := by decide +kernel
set_option maxRecDepth 20000 in
theorem ggX1_lawNumber_X1_isDay : GoodIn wsX1_lawNumber wsX1_isDay := goodIn_r _ [4, 5, 6, 7, 3, 8] (by decide +kernel) (by decide +kernel)
set_option maxRecDepth 20000 in
theorem gX1_lawNumber_X1_isDay : GoodIn wsX1_lawNumber (va_wsS RX1 59 yX1_isDay wsX1_isDay) := goodIn_app (goodIn_of _ (by decide +kernel)) ggX1_lawNumber_X1_isDay
set_option maxRecDepth 20000 in
theorem ggX1_lawNumber_X1_isFine : GoodIn wsX1_lawNumber wsX1_isFine := goodIn_r _ [12, 13, 34, 35, 36, 37, 38, 39, 40, 41, 42] (by decide +kernel) (by decide +kernel)
set_option maxRecDepth 20000 in
theorem gX1_lawNumber_X1_isFine : GoodIn wsX1_lawNumber (wsV RX1 62 RX1 yX1_isFine wsX1_isFine) := goodIn_app (goodIn_of _ (by decide +kernel)) ggX1_lawNumber_X1_isFine
set_option maxRecDepth 20000 in
theorem ggX1_lawNumber_X1_lawful : GoodIn wsX1_lawNumber wsX1_lawful := goodIn_r _ [17, 18, 19, 20, 21, 22, 23, 3, 24, 25, 26, 27, 28, 29, 30, 31, 32, 33, 34, 35, 36, 37, 38, 39, 40, 41, 42] (by decide +kernel) (by decide +kernel)
set_option maxRecDepth 20000 in
theorem gX1_lawNumber_X1_lawful : GoodIn wsX1_lawNumber (wsV RX1 97 RX1 yX1_lawful wsX1_lawful) := goodIn_app (goodIn_of _ (by decide +kernel)) ggX1_lawNumber_X1_lawful
theorem dX1_lawNumber_0 : decode cX1_lawNumber 0 = .ok (.aload_n 0, 1) := by decide +kernel
theorem dX1_lawNumber_1 : decode cX1_lawNumber 1 = .ok (.iload_n 1, 1) := by decide +kernel
theorem dX1_lawNumber_2 : decode cX1_lawNumber 2 = .ok (.invokestatic 59, 3) := by decide +kernel
theorem dX1_lawNumber_5 : decode cX1_lawNumber 5 = .ok (.ifCond .eq 7, 3) := by decide +kernel
theorem dX1_lawNumber_8 : decode cX1_lawNumber 8 = .ok (.iconst 0, 1) := by decide +kernel
theorem dX1_lawNumber_9 : decode cX1_lawNumber 9 = .ok (.goto 4, 3) := by decide +kernel
theorem dX1_lawNumber_12 : decode cX1_lawNumber 12 = .ok (.iconst 1, 1) := by decide +kernel
theorem dX1_lawNumber_13 : decode cX1_lawNumber 13 = .ok (.invokevirtual 62, 3) := by decide +kernel
theorem dX1_lawNumber_16 : decode cX1_lawNumber 16 = .ok (.ifCond .eq 11, 3) := by decide +kernel
theorem dX1_lawNumber_19 : decode cX1_lawNumber 19 = .ok (.aload_n 0, 1) := by decide +kernel
theorem dX1_lawNumber_20 : decode cX1_lawNumber 20 = .ok (.iload_n 1, 1) := by decide +kernel
theorem dX1_lawNumber_21 : decode cX1_lawNumber 21 = .ok (.invokevirtual 97, 3) := by decide +kernel
theorem dX1_lawNumber_24 : decode cX1_lawNumber 24 = .ok (.goto 4, 3) := by decide +kernel
theorem dX1_lawNumber_27 : decode cX1_lawNumber 27 = .ok (.iconst 0, 1) := by decide +kernel
theorem dX1_lawNumber_28 : decode cX1_lawNumber 28 = .ok (.ireturn, 1) := by decide +kernel
set_option maxRecDepth 20000 in
theorem ggX1_termEnd_X1_isDay : GoodIn wsX1_termEnd wsX1_isDay := goodIn_r _ [6, 7, 8, 9, 5, 10] (by decide +kernel) (by decide +kernel)
set_option maxRecDepth 20000 in
theorem gX1_termEnd_X1_isDay : GoodIn wsX1_termEnd (va_wsS RX1 59 yX1_isDay wsX1_isDay) := goodIn_app (goodIn_of _ (by decide +kernel)) ggX1_termEnd_X1_isDay
set_option maxRecDepth 20000 in
theorem ggX1_termEnd_X1_isIn : GoodIn wsX1_termEnd wsX1_isIn := goodIn_r _ [10] (by decide +kernel) (by decide +kernel)
set_option maxRecDepth 20000 in
theorem gX1_termEnd_X1_isIn : GoodIn wsX1_termEnd (va_wsS RX1 40 yX1_isIn wsX1_isIn) := goodIn_app (goodIn_of _ (by decide +kernel)) ggX1_termEnd_X1_isIn
set_option maxRecDepth 20000 in
theorem ggX1_termEnd_X1_lawful : GoodIn wsX1_termEnd wsX1_lawful := goodIn_r _ [14, 15, 16, 17, 18, 19, 20, 5, 21, 22, 23, 24, 25, 26, 27, 28, 29, 30, 36, 37, 38, 39, 40, 41, 42, 43, 44] (by decide +kernel) (by decide +kernel)
set_option maxRecDepth 20000 in
theorem gX1_termEnd_X1_lawful : GoodIn wsX1_termEnd (wsV RX1 97 RX1 yX1_lawful wsX1_lawful) := goodIn_app (goodIn_of _ (by decide +kernel)) ggX1_termEnd_X1_lawful
set_option maxRecDepth 20000 in
theorem ggX1_termEnd_X1_isFine : GoodIn wsX1_termEnd wsX1_isFine := goodIn_r _ [34, 35, 36, 37, 38, 39, 40, 41, 42, 43, 44] (by decide +kernel) (by decide +kernel)
set_option maxRecDepth 20000 in
theorem gX1_termEnd_X1_isFine : GoodIn wsX1_termEnd (wsV RX1 62 RX1 yX1_isFine wsX1_isFine) := goodIn_app (goodIn_of _ (by decide +kernel)) ggX1_termEnd_X1_isFine
theorem dX1_termEnd_0 : decode cX1_termEnd 0 = .ok (.iload_n 1, 1) := by decide +kernel
theorem dX1_termEnd_1 : decode cX1_termEnd 1 = .ok (.invokestatic 59, 3) := by decide +kernel
theorem dX1_termEnd_4 : decode cX1_termEnd 4 = .ok (.istore_n 3, 1) := by decide +kernel
theorem dX1_termEnd_5 : decode cX1_termEnd 5 = .ok (.iload_n 2, 1) := by decide +kernel
theorem dX1_termEnd_6 : decode cX1_termEnd 6 = .ok (.iconst 0, 1) := by decide +kernel
theorem dX1_termEnd_7 : decode cX1_termEnd 7 = .ok (.ldc 100, 2) := by decide +kernel
theorem dX1_termEnd_9 : decode cX1_termEnd 9 = .ok (.invokestatic 40, 3) := by decide +kernel
theorem dX1_termEnd_12 : decode cX1_termEnd 12 = .ok (.istore 4, 2) := by decide +kernel
theorem dX1_termEnd_14 : decode cX1_termEnd 14 = .ok (.iload_n 3, 1) := by decide +kernel
theorem dX1_termEnd_15 : decode cX1_termEnd 15 = .ok (.ifCond .eq 18, 3) := by decide +kernel
theorem dX1_termEnd_18 : decode cX1_termEnd 18 = .ok (.iload 4, 2) := by decide +kernel
theorem dX1_termEnd_20 : decode cX1_termEnd 20 = .ok (.ifCond .eq 13, 3) := by decide +kernel
theorem dX1_termEnd_23 : decode cX1_termEnd 23 = .ok (.aload_n 0, 1) := by decide +kernel
theorem dX1_termEnd_24 : decode cX1_termEnd 24 = .ok (.iload_n 1, 1) := by decide +kernel
theorem dX1_termEnd_25 : decode cX1_termEnd 25 = .ok (.invokevirtual 97, 3) := by decide +kernel
theorem dX1_termEnd_28 : decode cX1_termEnd 28 = .ok (.iload_n 2, 1) := by decide +kernel
theorem dX1_termEnd_29 : decode cX1_termEnd 29 = .ok (.iadd, 1) := by decide +kernel
theorem dX1_termEnd_30 : decode cX1_termEnd 30 = .ok (.goto 4, 3) := by decide +kernel
theorem dX1_termEnd_33 : decode cX1_termEnd 33 = .ok (.iconst 0, 1) := by decide +kernel
theorem dX1_termEnd_34 : decode cX1_termEnd 34 = .ok (.istore 5, 2) := by decide +kernel
theorem dX1_termEnd_36 : decode cX1_termEnd 36 = .ok (.iload_n 3, 1) := by decide +kernel
theorem dX1_termEnd_37 : decode cX1_termEnd 37 = .ok (.ifCond .eq 14, 3) := by decide +kernel
theorem dX1_termEnd_40 : decode cX1_termEnd 40 = .ok (.iload 4, 2) := by decide +kernel
theorem dX1_termEnd_42 : decode cX1_termEnd 42 = .ok (.ifCond .eq 9, 3) := by decide +kernel
theorem dX1_termEnd_45 : decode cX1_termEnd 45 = .ok (.iload_n 1, 1) := by decide +kernel
theorem dX1_termEnd_46 : decode cX1_termEnd 46 = .ok (.iload_n 2, 1) := by decide +kernel
theorem dX1_termEnd_47 : decode cX1_termEnd 47 = .ok (.iadd, 1) := by decide +kernel
theorem dX1_termEnd_48 : decode cX1_termEnd 48 = .ok (.goto 4, 3) := by decide +kernel
theorem dX1_termEnd_51 : decode cX1_termEnd 51 = .ok (.iconst 0, 1) := by decide +kernel
theorem dX1_termEnd_52 : decode cX1_termEnd 52 = .ok (.istore 6, 2) := by decide +kernel
theorem dX1_termEnd_54 : decode cX1_termEnd 54 = .ok (.iload 6, 2) := by decide +kernel
theorem dX1_termEnd_56 : decode cX1_termEnd 56 = .ok (.iconst 1, 1) := by decide +kernel
theorem dX1_termEnd_57 : decode cX1_termEnd 57 = .ok (.iadd, 1) := by decide +kernel
theorem dX1_termEnd_58 : decode cX1_termEnd 58 = .ok (.ldc 65, 2) := by decide +kernel
theorem dX1_termEnd_60 : decode cX1_termEnd 60 = .ok (.if_icmp .ge 31, 3) := by decide +kernel
theorem dX1_termEnd_63 : decode cX1_termEnd 63 = .ok (.iload_n 3, 1) := by decide +kernel
theorem dX1_termEnd_64 : decode cX1_termEnd 64 = .ok (.ifCond .eq 27, 3) := by decide +kernel
theorem dX1_termEnd_67 : decode cX1_termEnd 67 = .ok (.iload 4, 2) := by decide +kernel
theorem dX1_termEnd_69 : decode cX1_termEnd 69 = .ok (.ifCond .eq 22, 3) := by decide +kernel
theorem dX1_termEnd_72 : decode cX1_termEnd 72 = .ok (.aload_n 0, 1) := by decide +kernel
theorem dX1_termEnd_73 : decode cX1_termEnd 73 = .ok (.iload 6, 2) := by decide +kernel
theorem dX1_termEnd_75 : decode cX1_termEnd 75 = .ok (.iconst 1, 1) := by decide +kernel
theorem dX1_termEnd_76 : decode cX1_termEnd 76 = .ok (.iadd, 1) := by decide +kernel
theorem dX1_termEnd_77 : decode cX1_termEnd 77 = .ok (.invokevirtual 97, 3) := by decide +kernel
theorem dX1_termEnd_80 : decode cX1_termEnd 80 = .ok (.iload 5, 2) := by decide +kernel
theorem dX1_termEnd_82 : decode cX1_termEnd 82 = .ok (.if_icmp .gt 9, 3) := by decide +kernel
theorem dX1_termEnd_85 : decode cX1_termEnd 85 = .ok (.iinc 6 1, 3) := by decide +kernel
theorem dX1_termEnd_88 : decode cX1_termEnd 88 = .ok (.goto (-34), 3) := by decide +kernel
theorem dX1_termEnd_91 : decode cX1_termEnd 91 = .ok (.iload 6, 2) := by decide +kernel
theorem dX1_termEnd_93 : decode cX1_termEnd 93 = .ok (.ldc 65, 2) := by decide +kernel
theorem dX1_termEnd_95 : decode cX1_termEnd 95 = .ok (.if_icmp .ge 18, 3) := by decide +kernel
theorem dX1_termEnd_98 : decode cX1_termEnd 98 = .ok (.aload_n 0, 1) := by decide +kernel
theorem dX1_termEnd_99 : decode cX1_termEnd 99 = .ok (.iload 6, 2) := by decide +kernel
theorem dX1_termEnd_101 : decode cX1_termEnd 101 = .ok (.invokevirtual 97, 3) := by decide +kernel
theorem dX1_termEnd_104 : decode cX1_termEnd 104 = .ok (.iload 5, 2) := by decide +kernel
theorem dX1_termEnd_106 : decode cX1_termEnd 106 = .ok (.if_icmp .ne 7, 3) := by decide +kernel
theorem dX1_termEnd_109 : decode cX1_termEnd 109 = .ok (.iconst 1, 1) := by decide +kernel
theorem dX1_termEnd_110 : decode cX1_termEnd 110 = .ok (.goto 4, 3) := by decide +kernel
theorem dX1_termEnd_113 : decode cX1_termEnd 113 = .ok (.iconst 0, 1) := by decide +kernel
theorem dX1_termEnd_114 : decode cX1_termEnd 114 = .ok (.istore 7, 2) := by decide +kernel
theorem dX1_termEnd_116 : decode cX1_termEnd 116 = .ok (.aload_n 0, 1) := by decide +kernel
theorem dX1_termEnd_117 : decode cX1_termEnd 117 = .ok (.iload_n 3, 1) := by decide +kernel
theorem dX1_termEnd_118 : decode cX1_termEnd 118 = .ok (.ifCond .ne 7, 3) := by decide +kernel
theorem dX1_termEnd_121 : decode cX1_termEnd 121 = .ok (.iconst 1, 1) := by decide +kernel
theorem dX1_termEnd_122 : decode cX1_termEnd 122 = .ok (.goto 22, 3) := by decide +kernel
theorem dX1_termEnd_125 : decode cX1_termEnd 125 = .ok (.iload 4, 2) := by decide +kernel
theorem dX1_termEnd_127 : decode cX1_termEnd 127 = .ok (.ifCond .ne 7, 3) := by decide +kernel
theorem dX1_termEnd_130 : decode cX1_termEnd 130 = .ok (.iconst 2, 1) := by decide +kernel
theorem dX1_termEnd_131 : decode cX1_termEnd 131 = .ok (.goto 13, 3) := by decide +kernel
theorem dX1_termEnd_134 : decode cX1_termEnd 134 = .ok (.iload 7, 2) := by decide +kernel
theorem dX1_termEnd_136 : decode cX1_termEnd 136 = .ok (.ifCond .ne 7, 3) := by decide +kernel
theorem dX1_termEnd_139 : decode cX1_termEnd 139 = .ok (.iconst 3, 1) := by decide +kernel
theorem dX1_termEnd_140 : decode cX1_termEnd 140 = .ok (.goto 4, 3) := by decide +kernel
theorem dX1_termEnd_143 : decode cX1_termEnd 143 = .ok (.iconst 0, 1) := by decide +kernel
theorem dX1_termEnd_144 : decode cX1_termEnd 144 = .ok (.invokevirtual 62, 3) := by decide +kernel
theorem dX1_termEnd_147 : decode cX1_termEnd 147 = .ok (.ifCond .eq 8, 3) := by decide +kernel
theorem dX1_termEnd_150 : decode cX1_termEnd 150 = .ok (.iload 6, 2) := by decide +kernel
theorem dX1_termEnd_152 : decode cX1_termEnd 152 = .ok (.goto 4, 3) := by decide +kernel
theorem dX1_termEnd_155 : decode cX1_termEnd 155 = .ok (.iconst 0, 1) := by decide +kernel
theorem dX1_termEnd_156 : decode cX1_termEnd 156 = .ok (.ireturn, 1) := by decide +kernel
set_option maxRecDepth 20000 in
theorem ggX1_lawDays_X1_isDay : GoodIn wsX1_lawDays wsX1_isDay := goodIn_r _ [4, 5, 6, 7, 3, 8] (by decide +kernel) (by decide +kernel)
set_option maxRecDepth 20000 in
theorem gX1_lawDays_X1_isDay : GoodIn wsX1_lawDays (va_wsS RX1 59 yX1_isDay wsX1_isDay) := goodIn_app (goodIn_of _ (by decide +kernel)) ggX1_lawDays_X1_isDay
set_option maxRecDepth 20000 in
theorem ggX1_lawDays_X1_isFine : GoodIn wsX1_lawDays wsX1_isFine := goodIn_r _ [12, 13, 34, 35, 36, 37, 38, 39, 40, 41, 42] (by decide +kernel) (by decide +kernel)
set_option maxRecDepth 20000 in
theorem gX1_lawDays_X1_isFine : GoodIn wsX1_lawDays (wsV RX1 62 RX1 yX1_isFine wsX1_isFine) := goodIn_app (goodIn_of _ (by decide +kernel)) ggX1_lawDays_X1_isFine
set_option maxRecDepth 20000 in
theorem ggX1_lawDays_X1_lawful : GoodIn wsX1_lawDays wsX1_lawful := goodIn_r _ [17, 18, 19, 20, 21, 22, 23, 3, 24, 25, 26, 27, 28, 29, 30, 31, 32, 33, 34, 35, 36, 37, 38, 39, 40, 41, 42] (by decide +kernel) (by decide +kernel)
set_option maxRecDepth 20000 in
theorem gX1_lawDays_X1_lawful : GoodIn wsX1_lawDays (wsV RX1 97 RX1 yX1_lawful wsX1_lawful) := goodIn_app (goodIn_of _ (by decide +kernel)) ggX1_lawDays_X1_lawful
theorem dX1_lawDays_0 : decode cX1_lawDays 0 = .ok (.aload_n 0, 1) := by decide +kernel
theorem dX1_lawDays_1 : decode cX1_lawDays 1 = .ok (.iload_n 1, 1) := by decide +kernel
theorem dX1_lawDays_2 : decode cX1_lawDays 2 = .ok (.invokestatic 59, 3) := by decide +kernel
theorem dX1_lawDays_5 : decode cX1_lawDays 5 = .ok (.ifCond .eq 14, 3) := by decide +kernel
theorem dX1_lawDays_8 : decode cX1_lawDays 8 = .ok (.iload_n 2, 1) := by decide +kernel
theorem dX1_lawDays_9 : decode cX1_lawDays 9 = .ok (.invokestatic 59, 3) := by decide +kernel
theorem dX1_lawDays_12 : decode cX1_lawDays 12 = .ok (.ifCond .eq 7, 3) := by decide +kernel
theorem dX1_lawDays_15 : decode cX1_lawDays 15 = .ok (.iconst 0, 1) := by decide +kernel
theorem dX1_lawDays_16 : decode cX1_lawDays 16 = .ok (.goto 4, 3) := by decide +kernel
theorem dX1_lawDays_19 : decode cX1_lawDays 19 = .ok (.iconst 1, 1) := by decide +kernel
theorem dX1_lawDays_20 : decode cX1_lawDays 20 = .ok (.invokevirtual 62, 3) := by decide +kernel
theorem dX1_lawDays_23 : decode cX1_lawDays 23 = .ok (.ifCond .eq 17, 3) := by decide +kernel
theorem dX1_lawDays_26 : decode cX1_lawDays 26 = .ok (.aload_n 0, 1) := by decide +kernel
theorem dX1_lawDays_27 : decode cX1_lawDays 27 = .ok (.iload_n 2, 1) := by decide +kernel
theorem dX1_lawDays_28 : decode cX1_lawDays 28 = .ok (.invokevirtual 97, 3) := by decide +kernel
theorem dX1_lawDays_31 : decode cX1_lawDays 31 = .ok (.aload_n 0, 1) := by decide +kernel
theorem dX1_lawDays_32 : decode cX1_lawDays 32 = .ok (.iload_n 1, 1) := by decide +kernel
theorem dX1_lawDays_33 : decode cX1_lawDays 33 = .ok (.invokevirtual 97, 3) := by decide +kernel
theorem dX1_lawDays_36 : decode cX1_lawDays 36 = .ok (.isub, 1) := by decide +kernel
theorem dX1_lawDays_37 : decode cX1_lawDays 37 = .ok (.goto 4, 3) := by decide +kernel
theorem dX1_lawDays_40 : decode cX1_lawDays 40 = .ok (.iconst 0, 1) := by decide +kernel
theorem dX1_lawDays_41 : decode cX1_lawDays 41 = .ok (.ireturn, 1) := by decide +kernel
set_option maxRecDepth 20000 in
theorem ggX1_placed_X1_splits : GoodIn wsX1_placed wsX1_splits := goodIn_r _ [8, 1, 2, 3, 9, 10, 7, 11, 12, 13, 14, 15, 16, 17, 18, 19, 20, 21, 22, 23, 24, 25, 26] (by decide +kernel) (by decide +kernel)
set_option maxRecDepth 20000 in
theorem gX1_placed_X1_splits : GoodIn wsX1_placed (wsV RX1 19 RX1 yX1_splits wsX1_splits) := goodIn_app (goodIn_of _ (by decide +kernel)) ggX1_placed_X1_splits
set_option maxRecDepth 20000 in
theorem ggX1_placed_X1_isLeap : GoodIn wsX1_placed wsX1_isLeap := goodIn_r _ [17] (by decide +kernel) (by decide +kernel)
set_option maxRecDepth 20000 in
theorem gX1_placed_X1_isLeap : GoodIn wsX1_placed (va_wsS RX1 45 yX1_isLeap wsX1_isLeap) := goodIn_app (goodIn_of _ (by decide +kernel)) ggX1_placed_X1_isLeap
set_option maxRecDepth 20000 in
theorem ggX1_placed_X1_begin : GoodIn wsX1_placed wsX1_begin := goodIn_r _ [11] (by decide +kernel) (by decide +kernel)
set_option maxRecDepth 20000 in
theorem gX1_placed_X1_begin : GoodIn wsX1_placed (va_wsS RX1 49 yX1_begin wsX1_begin) := goodIn_app (goodIn_of _ (by decide +kernel)) ggX1_placed_X1_begin
theorem dX1_placed_0 : decode cX1_placed 0 = .ok (.aload_n 0, 1) := by decide +kernel
theorem dX1_placed_1 : decode cX1_placed 1 = .ok (.iload_n 1, 1) := by decide +kernel
theorem dX1_placed_2 : decode cX1_placed 2 = .ok (.invokevirtual 19, 3) := by decide +kernel
theorem dX1_placed_5 : decode cX1_placed 5 = .ok (.aload_n 0, 1) := by decide +kernel
theorem dX1_placed_6 : decode cX1_placed 6 = .ok (.getfield 56, 3) := by decide +kernel
theorem dX1_placed_9 : decode cX1_placed 9 = .ok (.invokestatic 45, 3) := by decide +kernel
theorem dX1_placed_12 : decode cX1_placed 12 = .ok (.ifCond .eq 32, 3) := by decide +kernel
theorem dX1_placed_15 : decode cX1_placed 15 = .ok (.aload_n 0, 1) := by decide +kernel
theorem dX1_placed_16 : decode cX1_placed 16 = .ok (.getfield 27, 3) := by decide +kernel
theorem dX1_placed_19 : decode cX1_placed 19 = .ok (.iconst 2, 1) := by decide +kernel
theorem dX1_placed_20 : decode cX1_placed 20 = .ok (.if_icmp .gt 20, 3) := by decide +kernel
theorem dX1_placed_23 : decode cX1_placed 23 = .ok (.aload_n 0, 1) := by decide +kernel
theorem dX1_placed_24 : decode cX1_placed 24 = .ok (.getfield 27, 3) := by decide +kernel
theorem dX1_placed_27 : decode cX1_placed 27 = .ok (.iconst 2, 1) := by decide +kernel
theorem dX1_placed_28 : decode cX1_placed 28 = .ok (.if_icmp .ne 16, 3) := by decide +kernel
theorem dX1_placed_31 : decode cX1_placed 31 = .ok (.aload_n 0, 1) := by decide +kernel
theorem dX1_placed_32 : decode cX1_placed 32 = .ok (.getfield 23, 3) := by decide +kernel
theorem dX1_placed_35 : decode cX1_placed 35 = .ok (.bipush 24, 2) := by decide +kernel
theorem dX1_placed_37 : decode cX1_placed 37 = .ok (.if_icmp .le 7, 3) := by decide +kernel
theorem dX1_placed_40 : decode cX1_placed 40 = .ok (.iconst 1, 1) := by decide +kernel
theorem dX1_placed_41 : decode cX1_placed 41 = .ok (.goto 4, 3) := by decide +kernel
theorem dX1_placed_44 : decode cX1_placed 44 = .ok (.iconst 0, 1) := by decide +kernel
theorem dX1_placed_45 : decode cX1_placed 45 = .ok (.istore_n 2, 1) := by decide +kernel
theorem dX1_placed_46 : decode cX1_placed 46 = .ok (.iload_n 1, 1) := by decide +kernel
theorem dX1_placed_47 : decode cX1_placed 47 = .ok (.aload_n 0, 1) := by decide +kernel
theorem dX1_placed_48 : decode cX1_placed 48 = .ok (.getfield 56, 3) := by decide +kernel
theorem dX1_placed_51 : decode cX1_placed 51 = .ok (.invokestatic 49, 3) := by decide +kernel
theorem dX1_placed_54 : decode cX1_placed 54 = .ok (.isub, 1) := by decide +kernel
theorem dX1_placed_55 : decode cX1_placed 55 = .ok (.iconst 1, 1) := by decide +kernel
theorem dX1_placed_56 : decode cX1_placed 56 = .ok (.iadd, 1) := by decide +kernel
theorem dX1_placed_57 : decode cX1_placed 57 = .ok (.iload_n 2, 1) := by decide +kernel
theorem dX1_placed_58 : decode cX1_placed 58 = .ok (.ifCond .eq 7, 3) := by decide +kernel
theorem dX1_placed_61 : decode cX1_placed 61 = .ok (.iconst 1, 1) := by decide +kernel
theorem dX1_placed_62 : decode cX1_placed 62 = .ok (.goto 4, 3) := by decide +kernel
theorem dX1_placed_65 : decode cX1_placed 65 = .ok (.iconst 0, 1) := by decide +kernel
theorem dX1_placed_66 : decode cX1_placed 66 = .ok (.isub, 1) := by decide +kernel
theorem dX1_placed_67 : decode cX1_placed 67 = .ok (.ireturn, 1) := by decide +kernel
set_option maxRecDepth 20000 in
theorem ggX1_placeOf_X1_isDay : GoodIn wsX1_placeOf wsX1_isDay := goodIn_r _ [4, 5, 6, 7, 3, 8] (by decide +kernel) (by decide +kernel)
set_option maxRecDepth 20000 in
theorem gX1_placeOf_X1_isDay : GoodIn wsX1_placeOf (va_wsS RX1 59 yX1_isDay wsX1_isDay) := goodIn_app (goodIn_of _ (by decide +kernel)) ggX1_placeOf_X1_isDay
set_option maxRecDepth 20000 in
theorem ggX1_placeOf_X1_isFine : GoodIn wsX1_placeOf wsX1_isFine := goodIn_r _ [12, 13, 34, 35, 36, 37, 38, 39, 40, 41, 42] (by decide +kernel) (by decide +kernel)
set_option maxRecDepth 20000 in
theorem gX1_placeOf_X1_isFine : GoodIn wsX1_placeOf (wsV RX1 62 RX1 yX1_isFine wsX1_isFine) := goodIn_app (goodIn_of _ (by decide +kernel)) ggX1_placeOf_X1_isFine
set_option maxRecDepth 20000 in
theorem ggX1_placeOf_X1_placed : GoodIn wsX1_placeOf wsX1_placed := goodIn_r _ [17, 18, 19, 20, 21, 22, 23, 3, 24, 25, 26, 27, 28, 29, 30, 31, 32, 33, 34, 35, 36, 37, 38, 39, 40, 41, 42] (by decide +kernel) (by decide +kernel)
set_option maxRecDepth 20000 in
theorem gX1_placeOf_X1_placed : GoodIn wsX1_placeOf (wsV RX1 101 RX1 yX1_placed wsX1_placed) := goodIn_app (goodIn_of _ (by decide +kernel)) ggX1_placeOf_X1_placed
theorem dX1_placeOf_0 : decode cX1_placeOf 0 = .ok (.aload_n 0, 1) := by decide +kernel
theorem dX1_placeOf_1 : decode cX1_placeOf 1 = .ok (.iload_n 1, 1) := by decide +kernel
theorem dX1_placeOf_2 : decode cX1_placeOf 2 = .ok (.invokestatic 59, 3) := by decide +kernel
theorem dX1_placeOf_5 : decode cX1_placeOf 5 = .ok (.ifCond .eq 7, 3) := by decide +kernel
theorem dX1_placeOf_8 : decode cX1_placeOf 8 = .ok (.iconst 0, 1) := by decide +kernel
theorem dX1_placeOf_9 : decode cX1_placeOf 9 = .ok (.goto 4, 3) := by decide +kernel
theorem dX1_placeOf_12 : decode cX1_placeOf 12 = .ok (.iconst 1, 1) := by decide +kernel
theorem dX1_placeOf_13 : decode cX1_placeOf 13 = .ok (.invokevirtual 62, 3) := by decide +kernel
theorem dX1_placeOf_16 : decode cX1_placeOf 16 = .ok (.ifCond .eq 11, 3) := by decide +kernel
theorem dX1_placeOf_19 : decode cX1_placeOf 19 = .ok (.aload_n 0, 1) := by decide +kernel
theorem dX1_placeOf_20 : decode cX1_placeOf 20 = .ok (.iload_n 1, 1) := by decide +kernel
theorem dX1_placeOf_21 : decode cX1_placeOf 21 = .ok (.invokevirtual 101, 3) := by decide +kernel
theorem dX1_placeOf_24 : decode cX1_placeOf 24 = .ok (.goto 4, 3) := by decide +kernel
theorem dX1_placeOf_27 : decode cX1_placeOf 27 = .ok (.iconst 0, 1) := by decide +kernel
theorem dX1_placeOf_28 : decode cX1_placeOf 28 = .ok (.ireturn, 1) := by decide +kernel
set_option maxRecDepth 20000 in
theorem ggX1_letterOfEight_X1_isDay : GoodIn wsX1_letterOfEight wsX1_isDay := goodIn_r _ [4, 5, 6, 7, 3, 8] (by decide +kernel) (by decide +kernel)
set_option maxRecDepth 20000 in
theorem gX1_letterOfEight_X1_isDay : GoodIn wsX1_letterOfEight (va_wsS RX1 59 yX1_isDay wsX1_isDay) := goodIn_app (goodIn_of _ (by decide +kernel)) ggX1_letterOfEight_X1_isDay
set_option maxRecDepth 20000 in
theorem ggX1_letterOfEight_X1_isFine : GoodIn wsX1_letterOfEight wsX1_isFine := goodIn_r _ [12, 13, 34, 35, 36, 37, 38, 39, 40, 41, 42] (by decide +kernel) (by decide +kernel)
set_option maxRecDepth 20000 in
theorem gX1_letterOfEight_X1_isFine : GoodIn wsX1_letterOfEight (wsV RX1 62 RX1 yX1_isFine wsX1_isFine) := goodIn_app (goodIn_of _ (by decide +kernel)) ggX1_letterOfEight_X1_isFine
set_option maxRecDepth 20000 in
theorem ggX1_letterOfEight_X1_placed : GoodIn wsX1_letterOfEight wsX1_placed := goodIn_r _ [17, 18, 19, 20, 21, 22, 23, 3, 24, 25, 26, 27, 28, 29, 30, 31, 32, 33, 34, 35, 36, 37, 38, 39, 40, 41, 42] (by decide +kernel) (by decide +kernel)
set_option maxRecDepth 20000 in
theorem gX1_letterOfEight_X1_placed : GoodIn wsX1_letterOfEight (wsV RX1 101 RX1 yX1_placed wsX1_placed) := goodIn_app (goodIn_of _ (by decide +kernel)) ggX1_letterOfEight_X1_placed
theorem dX1_letterOfEight_0 : decode cX1_letterOfEight 0 = .ok (.aload_n 0, 1) := by decide +kernel
theorem dX1_letterOfEight_1 : decode cX1_letterOfEight 1 = .ok (.iload_n 1, 1) := by decide +kernel
theorem dX1_letterOfEight_2 : decode cX1_letterOfEight 2 = .ok (.invokestatic 59, 3) := by decide +kernel
theorem dX1_letterOfEight_5 : decode cX1_letterOfEight 5 = .ok (.ifCond .eq 7, 3) := by decide +kernel
theorem dX1_letterOfEight_8 : decode cX1_letterOfEight 8 = .ok (.iconst 0, 1) := by decide +kernel
theorem dX1_letterOfEight_9 : decode cX1_letterOfEight 9 = .ok (.goto 4, 3) := by decide +kernel
theorem dX1_letterOfEight_12 : decode cX1_letterOfEight 12 = .ok (.iconst 1, 1) := by decide +kernel
theorem dX1_letterOfEight_13 : decode cX1_letterOfEight 13 = .ok (.invokevirtual 62, 3) := by decide +kernel
theorem dX1_letterOfEight_16 : decode cX1_letterOfEight 16 = .ok (.ifCond .eq 16, 3) := by decide +kernel
theorem dX1_letterOfEight_19 : decode cX1_letterOfEight 19 = .ok (.aload_n 0, 1) := by decide +kernel
theorem dX1_letterOfEight_20 : decode cX1_letterOfEight 20 = .ok (.iload_n 1, 1) := by decide +kernel
theorem dX1_letterOfEight_21 : decode cX1_letterOfEight 21 = .ok (.invokevirtual 101, 3) := by decide +kernel
theorem dX1_letterOfEight_24 : decode cX1_letterOfEight 24 = .ok (.iconst 1, 1) := by decide +kernel
theorem dX1_letterOfEight_25 : decode cX1_letterOfEight 25 = .ok (.isub, 1) := by decide +kernel
theorem dX1_letterOfEight_26 : decode cX1_letterOfEight 26 = .ok (.bipush 8, 2) := by decide +kernel
theorem dX1_letterOfEight_28 : decode cX1_letterOfEight 28 = .ok (.irem, 1) := by decide +kernel
theorem dX1_letterOfEight_29 : decode cX1_letterOfEight 29 = .ok (.goto 4, 3) := by decide +kernel
theorem dX1_letterOfEight_32 : decode cX1_letterOfEight 32 = .ok (.iconst 0, 1) := by decide +kernel
theorem dX1_letterOfEight_33 : decode cX1_letterOfEight 33 = .ok (.ireturn, 1) := by decide +kernel
set_option maxRecDepth 20000 in
theorem ggX1_letterOfSeven_X1_isDay : GoodIn wsX1_letterOfSeven wsX1_isDay := goodIn_r _ [4, 5, 6, 7, 3, 8] (by decide +kernel) (by decide +kernel)
set_option maxRecDepth 20000 in
theorem gX1_letterOfSeven_X1_isDay : GoodIn wsX1_letterOfSeven (va_wsS RX1 59 yX1_isDay wsX1_isDay) := goodIn_app (goodIn_of _ (by decide +kernel)) ggX1_letterOfSeven_X1_isDay
set_option maxRecDepth 20000 in
theorem ggX1_letterOfSeven_X1_isFine : GoodIn wsX1_letterOfSeven wsX1_isFine := goodIn_r _ [12, 13, 34, 35, 36, 37, 38, 39, 40, 41, 42] (by decide +kernel) (by decide +kernel)
set_option maxRecDepth 20000 in
theorem gX1_letterOfSeven_X1_isFine : GoodIn wsX1_letterOfSeven (wsV RX1 62 RX1 yX1_isFine wsX1_isFine) := goodIn_app (goodIn_of _ (by decide +kernel)) ggX1_letterOfSeven_X1_isFine
set_option maxRecDepth 20000 in
theorem ggX1_letterOfSeven_X1_placed : GoodIn wsX1_letterOfSeven wsX1_placed := goodIn_r _ [17, 18, 19, 20, 21, 22, 23, 3, 24, 25, 26, 27, 28, 29, 30, 31, 32, 33, 34, 35, 36, 37, 38, 39, 40, 41, 42] (by decide +kernel) (by decide +kernel)
set_option maxRecDepth 20000 in
theorem gX1_letterOfSeven_X1_placed : GoodIn wsX1_letterOfSeven (wsV RX1 101 RX1 yX1_placed wsX1_placed) := goodIn_app (goodIn_of _ (by decide +kernel)) ggX1_letterOfSeven_X1_placed
theorem dX1_letterOfSeven_0 : decode cX1_letterOfSeven 0 = .ok (.aload_n 0, 1) := by decide +kernel
theorem dX1_letterOfSeven_1 : decode cX1_letterOfSeven 1 = .ok (.iload_n 1, 1) := by decide +kernel
theorem dX1_letterOfSeven_2 : decode cX1_letterOfSeven 2 = .ok (.invokestatic 59, 3) := by decide +kernel
theorem dX1_letterOfSeven_5 : decode cX1_letterOfSeven 5 = .ok (.ifCond .eq 7, 3) := by decide +kernel
theorem dX1_letterOfSeven_8 : decode cX1_letterOfSeven 8 = .ok (.iconst 0, 1) := by decide +kernel
theorem dX1_letterOfSeven_9 : decode cX1_letterOfSeven 9 = .ok (.goto 4, 3) := by decide +kernel
theorem dX1_letterOfSeven_12 : decode cX1_letterOfSeven 12 = .ok (.iconst 1, 1) := by decide +kernel
theorem dX1_letterOfSeven_13 : decode cX1_letterOfSeven 13 = .ok (.invokevirtual 62, 3) := by decide +kernel
theorem dX1_letterOfSeven_16 : decode cX1_letterOfSeven 16 = .ok (.ifCond .eq 16, 3) := by decide +kernel
theorem dX1_letterOfSeven_19 : decode cX1_letterOfSeven 19 = .ok (.aload_n 0, 1) := by decide +kernel
theorem dX1_letterOfSeven_20 : decode cX1_letterOfSeven 20 = .ok (.iload_n 1, 1) := by decide +kernel
theorem dX1_letterOfSeven_21 : decode cX1_letterOfSeven 21 = .ok (.invokevirtual 101, 3) := by decide +kernel
theorem dX1_letterOfSeven_24 : decode cX1_letterOfSeven 24 = .ok (.iconst 1, 1) := by decide +kernel
theorem dX1_letterOfSeven_25 : decode cX1_letterOfSeven 25 = .ok (.isub, 1) := by decide +kernel
theorem dX1_letterOfSeven_26 : decode cX1_letterOfSeven 26 = .ok (.bipush 7, 2) := by decide +kernel
theorem dX1_letterOfSeven_28 : decode cX1_letterOfSeven 28 = .ok (.irem, 1) := by decide +kernel
theorem dX1_letterOfSeven_29 : decode cX1_letterOfSeven 29 = .ok (.goto 4, 3) := by decide +kernel
theorem dX1_letterOfSeven_32 : decode cX1_letterOfSeven 32 = .ok (.iconst 0, 1) := by decide +kernel
theorem dX1_letterOfSeven_33 : decode cX1_letterOfSeven 33 = .ok (.ireturn, 1) := by decide +kernel
set_option maxRecDepth 20000 in
theorem ggX1_setMarketDay_X1_isDay : GoodIn wsX1_setMarketDay wsX1_isDay := goodIn_r _ [5, 6, 7, 8, 4, 9] (by decide +kernel) (by decide +kernel)
set_option maxRecDepth 20000 in
theorem gX1_setMarketDay_X1_isDay : GoodIn wsX1_setMarketDay (va_wsS RX1 59 yX1_isDay wsX1_isDay) := goodIn_app (goodIn_of _ (by decide +kernel)) ggX1_setMarketDay_X1_isDay
set_option maxRecDepth 20000 in
theorem ggX1_setMarketDay_X1_isFine : GoodIn wsX1_setMarketDay wsX1_isFine := goodIn_r _ [13, 14, 15, 16, 17, 18, 19, 20, 21, 22, 23] (by decide +kernel) (by decide +kernel)
set_option maxRecDepth 20000 in
theorem gX1_setMarketDay_X1_isFine : GoodIn wsX1_setMarketDay (wsV RX1 62 RX1 yX1_isFine wsX1_isFine) := goodIn_app (goodIn_of _ (by decide +kernel)) ggX1_setMarketDay_X1_isFine
theorem dX1_setMarketDay_0 : decode cX1_setMarketDay 0 = .ok (.aload_n 0, 1) := by decide +kernel
theorem dX1_setMarketDay_1 : decode cX1_setMarketDay 1 = .ok (.iload_n 1, 1) := by decide +kernel
theorem dX1_setMarketDay_2 : decode cX1_setMarketDay 2 = .ok (.invokestatic 59, 3) := by decide +kernel
theorem dX1_setMarketDay_5 : decode cX1_setMarketDay 5 = .ok (.ifCond .eq 7, 3) := by decide +kernel
theorem dX1_setMarketDay_8 : decode cX1_setMarketDay 8 = .ok (.iconst 0, 1) := by decide +kernel
theorem dX1_setMarketDay_9 : decode cX1_setMarketDay 9 = .ok (.goto 4, 3) := by decide +kernel
theorem dX1_setMarketDay_12 : decode cX1_setMarketDay 12 = .ok (.iconst 1, 1) := by decide +kernel
theorem dX1_setMarketDay_13 : decode cX1_setMarketDay 13 = .ok (.invokevirtual 62, 3) := by decide +kernel
theorem dX1_setMarketDay_16 : decode cX1_setMarketDay 16 = .ok (.ifCond .ne 5, 3) := by decide +kernel
theorem dX1_setMarketDay_19 : decode cX1_setMarketDay 19 = .ok (.iconst 0, 1) := by decide +kernel
theorem dX1_setMarketDay_20 : decode cX1_setMarketDay 20 = .ok (.ireturn, 1) := by decide +kernel
theorem dX1_setMarketDay_21 : decode cX1_setMarketDay 21 = .ok (.aload_n 0, 1) := by decide +kernel
theorem dX1_setMarketDay_22 : decode cX1_setMarketDay 22 = .ok (.getfield 104, 3) := by decide +kernel
theorem dX1_setMarketDay_25 : decode cX1_setMarketDay 25 = .ok (.istore_n 2, 1) := by decide +kernel
theorem dX1_setMarketDay_26 : decode cX1_setMarketDay 26 = .ok (.aload_n 0, 1) := by decide +kernel
theorem dX1_setMarketDay_27 : decode cX1_setMarketDay 27 = .ok (.iload_n 1, 1) := by decide +kernel
theorem dX1_setMarketDay_28 : decode cX1_setMarketDay 28 = .ok (.bipush 8, 2) := by decide +kernel
theorem dX1_setMarketDay_30 : decode cX1_setMarketDay 30 = .ok (.irem, 1) := by decide +kernel
theorem dX1_setMarketDay_31 : decode cX1_setMarketDay 31 = .ok (.putfield 104, 3) := by decide +kernel
theorem dX1_setMarketDay_34 : decode cX1_setMarketDay 34 = .ok (.iload_n 2, 1) := by decide +kernel
theorem dX1_setMarketDay_35 : decode cX1_setMarketDay 35 = .ok (.ireturn, 1) := by decide +kernel
set_option maxRecDepth 20000 in
theorem ggX1_isMarket_X1_isDay : GoodIn wsX1_isMarket wsX1_isDay := goodIn_r _ [5, 6, 7, 8, 4, 9] (by decide +kernel) (by decide +kernel)
set_option maxRecDepth 20000 in
theorem gX1_isMarket_X1_isDay : GoodIn wsX1_isMarket (va_wsS RX1 59 yX1_isDay wsX1_isDay) := goodIn_app (goodIn_of _ (by decide +kernel)) ggX1_isMarket_X1_isDay
set_option maxRecDepth 20000 in
theorem ggX1_isMarket_X1_isFine : GoodIn wsX1_isMarket wsX1_isFine := goodIn_r _ [13, 14, 15, 16, 17, 18, 19, 20, 21, 22, 23] (by decide +kernel) (by decide +kernel)
set_option maxRecDepth 20000 in
theorem gX1_isMarket_X1_isFine : GoodIn wsX1_isMarket (wsV RX1 62 RX1 yX1_isFine wsX1_isFine) := goodIn_app (goodIn_of _ (by decide +kernel)) ggX1_isMarket_X1_isFine
theorem dX1_isMarket_0 : decode cX1_isMarket 0 = .ok (.aload_n 0, 1) := by decide +kernel
theorem dX1_isMarket_1 : decode cX1_isMarket 1 = .ok (.iload_n 1, 1) := by decide +kernel
theorem dX1_isMarket_2 : decode cX1_isMarket 2 = .ok (.invokestatic 59, 3) := by decide +kernel
theorem dX1_isMarket_5 : decode cX1_isMarket 5 = .ok (.ifCond .eq 7, 3) := by decide +kernel
theorem dX1_isMarket_8 : decode cX1_isMarket 8 = .ok (.iconst 0, 1) := by decide +kernel
theorem dX1_isMarket_9 : decode cX1_isMarket 9 = .ok (.goto 4, 3) := by decide +kernel
theorem dX1_isMarket_12 : decode cX1_isMarket 12 = .ok (.iconst 1, 1) := by decide +kernel
theorem dX1_isMarket_13 : decode cX1_isMarket 13 = .ok (.invokevirtual 62, 3) := by decide +kernel
theorem dX1_isMarket_16 : decode cX1_isMarket 16 = .ok (.ifCond .eq 18, 3) := by decide +kernel
theorem dX1_isMarket_19 : decode cX1_isMarket 19 = .ok (.iload_n 1, 1) := by decide +kernel
theorem dX1_isMarket_20 : decode cX1_isMarket 20 = .ok (.bipush 8, 2) := by decide +kernel
theorem dX1_isMarket_22 : decode cX1_isMarket 22 = .ok (.irem, 1) := by decide +kernel
theorem dX1_isMarket_23 : decode cX1_isMarket 23 = .ok (.aload_n 0, 1) := by decide +kernel
theorem dX1_isMarket_24 : decode cX1_isMarket 24 = .ok (.getfield 104, 3) := by decide +kernel
theorem dX1_isMarket_27 : decode cX1_isMarket 27 = .ok (.if_icmp .ne 7, 3) := by decide +kernel
theorem dX1_isMarket_30 : decode cX1_isMarket 30 = .ok (.iconst 1, 1) := by decide +kernel
theorem dX1_isMarket_31 : decode cX1_isMarket 31 = .ok (.goto 4, 3) := by decide +kernel
theorem dX1_isMarket_34 : decode cX1_isMarket 34 = .ok (.iconst 0, 1) := by decide +kernel
theorem dX1_isMarket_35 : decode cX1_isMarket 35 = .ok (.ireturn, 1) := by decide +kernel
set_option maxRecDepth 20000 in
theorem ggX1_letters_X1_begin : GoodIn wsX1_letters wsX1_begin := goodIn_r _ [4] (by decide +kernel) (by decide +kernel)
set_option maxRecDepth 20000 in
theorem gX1_letters_X1_begin : GoodIn wsX1_letters (va_wsS RX1 49 yX1_begin wsX1_begin) := goodIn_app (goodIn_of _ (by decide +kernel)) ggX1_letters_X1_begin
set_option maxRecDepth 20000 in
theorem ggX1_letters_X1_placed : GoodIn wsX1_letters wsX1_placed := goodIn_r _ [8, 9, 10, 11, 12, 13, 14, 3, 15, 1, 2, 4, 16, 17, 18, 19, 20, 21, 22, 23, 24, 25, 26, 27, 28, 29, 30] (by decide +kernel) (by decide +kernel)
set_option maxRecDepth 20000 in
theorem gX1_letters_X1_placed : GoodIn wsX1_letters (wsV RX1 101 RX1 yX1_placed wsX1_placed) := goodIn_app (goodIn_of _ (by decide +kernel)) ggX1_letters_X1_placed
theorem dX1_letters_0 : decode cX1_letters 0 = .ok (.iload_n 1, 1) := by decide +kernel
theorem dX1_letters_1 : decode cX1_letters 1 = .ok (.invokestatic 49, 3) := by decide +kernel
theorem dX1_letters_4 : decode cX1_letters 4 = .ok (.istore 4, 2) := by decide +kernel
theorem dX1_letters_6 : decode cX1_letters 6 = .ok (.iload 4, 2) := by decide +kernel
theorem dX1_letters_8 : decode cX1_letters 8 = .ok (.iload_n 2, 1) := by decide +kernel
theorem dX1_letters_9 : decode cX1_letters 9 = .ok (.irem, 1) := by decide +kernel
theorem dX1_letters_10 : decode cX1_letters 10 = .ok (.iload_n 3, 1) := by decide +kernel
theorem dX1_letters_11 : decode cX1_letters 11 = .ok (.if_icmp .eq 9, 3) := by decide +kernel
theorem dX1_letters_14 : decode cX1_letters 14 = .ok (.iinc 4 1, 3) := by decide +kernel
theorem dX1_letters_17 : decode cX1_letters 17 = .ok (.goto (-11), 3) := by decide +kernel
theorem dX1_letters_20 : decode cX1_letters 20 = .ok (.iload_n 1, 1) := by decide +kernel
theorem dX1_letters_21 : decode cX1_letters 21 = .ok (.iconst 1, 1) := by decide +kernel
theorem dX1_letters_22 : decode cX1_letters 22 = .ok (.iadd, 1) := by decide +kernel
theorem dX1_letters_23 : decode cX1_letters 23 = .ok (.invokestatic 49, 3) := by decide +kernel
theorem dX1_letters_26 : decode cX1_letters 26 = .ok (.iconst 1, 1) := by decide +kernel
theorem dX1_letters_27 : decode cX1_letters 27 = .ok (.isub, 1) := by decide +kernel
theorem dX1_letters_28 : decode cX1_letters 28 = .ok (.istore 5, 2) := by decide +kernel
theorem dX1_letters_30 : decode cX1_letters 30 = .ok (.iload 5, 2) := by decide +kernel
theorem dX1_letters_32 : decode cX1_letters 32 = .ok (.iload_n 2, 1) := by decide +kernel
theorem dX1_letters_33 : decode cX1_letters 33 = .ok (.irem, 1) := by decide +kernel
theorem dX1_letters_34 : decode cX1_letters 34 = .ok (.iload_n 3, 1) := by decide +kernel
theorem dX1_letters_35 : decode cX1_letters 35 = .ok (.if_icmp .eq 9, 3) := by decide +kernel
theorem dX1_letters_38 : decode cX1_letters 38 = .ok (.iinc 5 (-1), 3) := by decide +kernel
theorem dX1_letters_41 : decode cX1_letters 41 = .ok (.goto (-11), 3) := by decide +kernel
theorem dX1_letters_44 : decode cX1_letters 44 = .ok (.bipush 10, 2) := by decide +kernel
theorem dX1_letters_46 : decode cX1_letters 46 = .ok (.aload_n 0, 1) := by decide +kernel
theorem dX1_letters_47 : decode cX1_letters 47 = .ok (.iload 4, 2) := by decide +kernel
theorem dX1_letters_49 : decode cX1_letters 49 = .ok (.invokevirtual 101, 3) := by decide +kernel
theorem dX1_letters_52 : decode cX1_letters 52 = .ok (.iconst 1, 1) := by decide +kernel
theorem dX1_letters_53 : decode cX1_letters 53 = .ok (.isub, 1) := by decide +kernel
theorem dX1_letters_54 : decode cX1_letters 54 = .ok (.iload_n 2, 1) := by decide +kernel
theorem dX1_letters_55 : decode cX1_letters 55 = .ok (.irem, 1) := by decide +kernel
theorem dX1_letters_56 : decode cX1_letters 56 = .ok (.imul, 1) := by decide +kernel
theorem dX1_letters_57 : decode cX1_letters 57 = .ok (.aload_n 0, 1) := by decide +kernel
theorem dX1_letters_58 : decode cX1_letters 58 = .ok (.iload 5, 2) := by decide +kernel
theorem dX1_letters_60 : decode cX1_letters 60 = .ok (.invokevirtual 101, 3) := by decide +kernel
theorem dX1_letters_63 : decode cX1_letters 63 = .ok (.iconst 1, 1) := by decide +kernel
theorem dX1_letters_64 : decode cX1_letters 64 = .ok (.isub, 1) := by decide +kernel
theorem dX1_letters_65 : decode cX1_letters 65 = .ok (.iload_n 2, 1) := by decide +kernel
theorem dX1_letters_66 : decode cX1_letters 66 = .ok (.irem, 1) := by decide +kernel
theorem dX1_letters_67 : decode cX1_letters 67 = .ok (.iadd, 1) := by decide +kernel
theorem dX1_letters_68 : decode cX1_letters 68 = .ok (.ireturn, 1) := by decide +kernel
set_option maxRecDepth 20000 in
theorem ggX1_marketLetters_X1_isYear : GoodIn wsX1_marketLetters wsX1_isYear := goodIn_r _ [5, 6, 7, 4, 8] (by decide +kernel) (by decide +kernel)
set_option maxRecDepth 20000 in
theorem gX1_marketLetters_X1_isYear : GoodIn wsX1_marketLetters (va_wsS RX1 66 yX1_isYear wsX1_isYear) := goodIn_app (goodIn_of _ (by decide +kernel)) ggX1_marketLetters_X1_isYear
set_option maxRecDepth 20000 in
theorem ggX1_marketLetters_X1_isFine : GoodIn wsX1_marketLetters wsX1_isFine := goodIn_r _ [12, 13, 38, 39, 40, 41, 42, 43, 44, 45, 46] (by decide +kernel) (by decide +kernel)
set_option maxRecDepth 20000 in
theorem gX1_marketLetters_X1_isFine : GoodIn wsX1_marketLetters (wsV RX1 62 RX1 yX1_isFine wsX1_isFine) := goodIn_app (goodIn_of _ (by decide +kernel)) ggX1_marketLetters_X1_isFine
set_option maxRecDepth 20000 in
theorem ggX1_marketLetters_X1_letters : GoodIn wsX1_marketLetters wsX1_letters := goodIn_r _ [17, 18, 19, 4, 20, 21, 22, 23, 24, 25, 26, 27, 28, 29, 30, 31, 32, 33, 34, 35, 36, 37, 38, 39, 40, 41, 42, 43, 44, 45, 46] (by decide +kernel) (by decide +kernel)
set_option maxRecDepth 20000 in
theorem gX1_marketLetters_X1_letters : GoodIn wsX1_marketLetters (wsV RX1 107 RX1 yX1_letters wsX1_letters) := goodIn_app (goodIn_of _ (by decide +kernel)) ggX1_marketLetters_X1_letters
theorem dX1_marketLetters_0 : decode cX1_marketLetters 0 = .ok (.aload_n 0, 1) := by decide +kernel
theorem dX1_marketLetters_1 : decode cX1_marketLetters 1 = .ok (.iload_n 1, 1) := by decide +kernel
theorem dX1_marketLetters_2 : decode cX1_marketLetters 2 = .ok (.invokestatic 66, 3) := by decide +kernel
theorem dX1_marketLetters_5 : decode cX1_marketLetters 5 = .ok (.ifCond .eq 7, 3) := by decide +kernel
theorem dX1_marketLetters_8 : decode cX1_marketLetters 8 = .ok (.iconst 0, 1) := by decide +kernel
theorem dX1_marketLetters_9 : decode cX1_marketLetters 9 = .ok (.goto 4, 3) := by decide +kernel
theorem dX1_marketLetters_12 : decode cX1_marketLetters 12 = .ok (.iconst 1, 1) := by decide +kernel
theorem dX1_marketLetters_13 : decode cX1_marketLetters 13 = .ok (.invokevirtual 62, 3) := by decide +kernel
theorem dX1_marketLetters_16 : decode cX1_marketLetters 16 = .ok (.ifCond .eq 17, 3) := by decide +kernel
theorem dX1_marketLetters_19 : decode cX1_marketLetters 19 = .ok (.aload_n 0, 1) := by decide +kernel
theorem dX1_marketLetters_20 : decode cX1_marketLetters 20 = .ok (.iload_n 1, 1) := by decide +kernel
theorem dX1_marketLetters_21 : decode cX1_marketLetters 21 = .ok (.bipush 8, 2) := by decide +kernel
theorem dX1_marketLetters_23 : decode cX1_marketLetters 23 = .ok (.aload_n 0, 1) := by decide +kernel
theorem dX1_marketLetters_24 : decode cX1_marketLetters 24 = .ok (.getfield 104, 3) := by decide +kernel
theorem dX1_marketLetters_27 : decode cX1_marketLetters 27 = .ok (.invokevirtual 107, 3) := by decide +kernel
theorem dX1_marketLetters_30 : decode cX1_marketLetters 30 = .ok (.goto 4, 3) := by decide +kernel
theorem dX1_marketLetters_33 : decode cX1_marketLetters 33 = .ok (.iconst 0, 1) := by decide +kernel
theorem dX1_marketLetters_34 : decode cX1_marketLetters 34 = .ok (.ireturn, 1) := by decide +kernel
set_option maxRecDepth 20000 in
theorem ggX1_sundayLetters_X1_isYear : GoodIn wsX1_sundayLetters wsX1_isYear := goodIn_r _ [4, 5, 6, 3, 7] (by decide +kernel) (by decide +kernel)
set_option maxRecDepth 20000 in
theorem gX1_sundayLetters_X1_isYear : GoodIn wsX1_sundayLetters (va_wsS RX1 66 yX1_isYear wsX1_isYear) := goodIn_app (goodIn_of _ (by decide +kernel)) ggX1_sundayLetters_X1_isYear
set_option maxRecDepth 20000 in
theorem ggX1_sundayLetters_X1_isFine : GoodIn wsX1_sundayLetters wsX1_isFine := goodIn_r _ [11, 12, 37, 38, 39, 40, 41, 42, 43, 44, 45] (by decide +kernel) (by decide +kernel)
set_option maxRecDepth 20000 in
theorem gX1_sundayLetters_X1_isFine : GoodIn wsX1_sundayLetters (wsV RX1 62 RX1 yX1_isFine wsX1_isFine) := goodIn_app (goodIn_of _ (by decide +kernel)) ggX1_sundayLetters_X1_isFine
set_option maxRecDepth 20000 in
theorem ggX1_sundayLetters_X1_letters : GoodIn wsX1_sundayLetters wsX1_letters := goodIn_r _ [16, 17, 18, 3, 19, 20, 21, 22, 23, 24, 25, 26, 27, 28, 29, 30, 31, 32, 33, 34, 35, 36, 37, 38, 39, 40, 41, 42, 43, 44, 45] (by decide +kernel) (by decide +kernel)
set_option maxRecDepth 20000 in
theorem gX1_sundayLetters_X1_letters : GoodIn wsX1_sundayLetters (wsV RX1 107 RX1 yX1_letters wsX1_letters) := goodIn_app (goodIn_of _ (by decide +kernel)) ggX1_sundayLetters_X1_letters
theorem dX1_sundayLetters_0 : decode cX1_sundayLetters 0 = .ok (.aload_n 0, 1) := by decide +kernel
theorem dX1_sundayLetters_1 : decode cX1_sundayLetters 1 = .ok (.iload_n 1, 1) := by decide +kernel
theorem dX1_sundayLetters_2 : decode cX1_sundayLetters 2 = .ok (.invokestatic 66, 3) := by decide +kernel
theorem dX1_sundayLetters_5 : decode cX1_sundayLetters 5 = .ok (.ifCond .eq 7, 3) := by decide +kernel
theorem dX1_sundayLetters_8 : decode cX1_sundayLetters 8 = .ok (.iconst 0, 1) := by decide +kernel
theorem dX1_sundayLetters_9 : decode cX1_sundayLetters 9 = .ok (.goto 4, 3) := by decide +kernel
theorem dX1_sundayLetters_12 : decode cX1_sundayLetters 12 = .ok (.iconst 1, 1) := by decide +kernel
theorem dX1_sundayLetters_13 : decode cX1_sundayLetters 13 = .ok (.invokevirtual 62, 3) := by decide +kernel
theorem dX1_sundayLetters_16 : decode cX1_sundayLetters 16 = .ok (.ifCond .eq 14, 3) := by decide +kernel
theorem dX1_sundayLetters_19 : decode cX1_sundayLetters 19 = .ok (.aload_n 0, 1) := by decide +kernel
theorem dX1_sundayLetters_20 : decode cX1_sundayLetters 20 = .ok (.iload_n 1, 1) := by decide +kernel
theorem dX1_sundayLetters_21 : decode cX1_sundayLetters 21 = .ok (.bipush 7, 2) := by decide +kernel
theorem dX1_sundayLetters_23 : decode cX1_sundayLetters 23 = .ok (.iconst 1, 1) := by decide +kernel
theorem dX1_sundayLetters_24 : decode cX1_sundayLetters 24 = .ok (.invokevirtual 107, 3) := by decide +kernel
theorem dX1_sundayLetters_27 : decode cX1_sundayLetters 27 = .ok (.goto 4, 3) := by decide +kernel
theorem dX1_sundayLetters_30 : decode cX1_sundayLetters 30 = .ok (.iconst 0, 1) := by decide +kernel
theorem dX1_sundayLetters_31 : decode cX1_sundayLetters 31 = .ok (.ireturn, 1) := by decide +kernel
set_option maxRecDepth 20000 in
theorem ggX1_setConsuls_X1_isIn : GoodIn wsX1_setConsuls wsX1_isIn := goodIn_r _ [7] (by decide +kernel) (by decide +kernel)
set_option maxRecDepth 20000 in
theorem gX1_setConsuls_X1_isIn : GoodIn wsX1_setConsuls (va_wsS RX1 40 yX1_isIn wsX1_isIn) := goodIn_app (goodIn_of _ (by decide +kernel)) ggX1_setConsuls_X1_isIn
set_option maxRecDepth 20000 in
theorem ggX1_setConsuls_X1_isYear : GoodIn wsX1_setConsuls wsX1_isYear := goodIn_r _ [10, 4, 5, 6, 7] (by decide +kernel) (by decide +kernel)
set_option maxRecDepth 20000 in
theorem gX1_setConsuls_X1_isYear : GoodIn wsX1_setConsuls (va_wsS RX1 66 yX1_isYear wsX1_isYear) := goodIn_app (goodIn_of _ (by decide +kernel)) ggX1_setConsuls_X1_isYear
set_option maxRecDepth 20000 in
theorem ggX1_setConsuls_X1_isFine : GoodIn wsX1_setConsuls wsX1_isFine := goodIn_r _ [14, 15, 16, 17, 18, 19, 20, 21, 22, 23, 24] (by decide +kernel) (by decide +kernel)
set_option maxRecDepth 20000 in
theorem gX1_setConsuls_X1_isFine : GoodIn wsX1_setConsuls (wsV RX1 62 RX1 yX1_isFine wsX1_isFine) := goodIn_app (goodIn_of _ (by decide +kernel)) ggX1_setConsuls_X1_isFine
theorem dX1_setConsuls_0 : decode cX1_setConsuls 0 = .ok (.iload_n 2, 1) := by decide +kernel
theorem dX1_setConsuls_1 : decode cX1_setConsuls 1 = .ok (.iconst 1, 1) := by decide +kernel
theorem dX1_setConsuls_2 : decode cX1_setConsuls 2 = .ok (.sipush 999, 3) := by decide +kernel
theorem dX1_setConsuls_5 : decode cX1_setConsuls 5 = .ok (.invokestatic 40, 3) := by decide +kernel
theorem dX1_setConsuls_8 : decode cX1_setConsuls 8 = .ok (.ifCond .eq 23, 3) := by decide +kernel
theorem dX1_setConsuls_11 : decode cX1_setConsuls 11 = .ok (.iload_n 3, 1) := by decide +kernel
theorem dX1_setConsuls_12 : decode cX1_setConsuls 12 = .ok (.iconst 1, 1) := by decide +kernel
theorem dX1_setConsuls_13 : decode cX1_setConsuls 13 = .ok (.sipush 999, 3) := by decide +kernel
theorem dX1_setConsuls_16 : decode cX1_setConsuls 16 = .ok (.invokestatic 40, 3) := by decide +kernel
theorem dX1_setConsuls_19 : decode cX1_setConsuls 19 = .ok (.ifCond .eq 12, 3) := by decide +kernel
theorem dX1_setConsuls_22 : decode cX1_setConsuls 22 = .ok (.iload_n 2, 1) := by decide +kernel
theorem dX1_setConsuls_23 : decode cX1_setConsuls 23 = .ok (.iload_n 3, 1) := by decide +kernel
theorem dX1_setConsuls_24 : decode cX1_setConsuls 24 = .ok (.if_icmp .eq 7, 3) := by decide +kernel
theorem dX1_setConsuls_27 : decode cX1_setConsuls 27 = .ok (.iconst 1, 1) := by decide +kernel
theorem dX1_setConsuls_28 : decode cX1_setConsuls 28 = .ok (.goto 4, 3) := by decide +kernel
theorem dX1_setConsuls_31 : decode cX1_setConsuls 31 = .ok (.iconst 0, 1) := by decide +kernel
theorem dX1_setConsuls_32 : decode cX1_setConsuls 32 = .ok (.istore 4, 2) := by decide +kernel
theorem dX1_setConsuls_34 : decode cX1_setConsuls 34 = .ok (.aload_n 0, 1) := by decide +kernel
theorem dX1_setConsuls_35 : decode cX1_setConsuls 35 = .ok (.iload_n 1, 1) := by decide +kernel
theorem dX1_setConsuls_36 : decode cX1_setConsuls 36 = .ok (.invokestatic 66, 3) := by decide +kernel
theorem dX1_setConsuls_39 : decode cX1_setConsuls 39 = .ok (.ifCond .ne 7, 3) := by decide +kernel
theorem dX1_setConsuls_42 : decode cX1_setConsuls 42 = .ok (.iconst 1, 1) := by decide +kernel
theorem dX1_setConsuls_43 : decode cX1_setConsuls 43 = .ok (.goto 35, 3) := by decide +kernel
theorem dX1_setConsuls_46 : decode cX1_setConsuls 46 = .ok (.iload 4, 2) := by decide +kernel
theorem dX1_setConsuls_48 : decode cX1_setConsuls 48 = .ok (.ifCond .ne 7, 3) := by decide +kernel
theorem dX1_setConsuls_51 : decode cX1_setConsuls 51 = .ok (.iconst 2, 1) := by decide +kernel
theorem dX1_setConsuls_52 : decode cX1_setConsuls 52 = .ok (.goto 26, 3) := by decide +kernel
theorem dX1_setConsuls_55 : decode cX1_setConsuls 55 = .ok (.aload_n 0, 1) := by decide +kernel
theorem dX1_setConsuls_56 : decode cX1_setConsuls 56 = .ok (.getfield 13, 3) := by decide +kernel
theorem dX1_setConsuls_59 : decode cX1_setConsuls 59 = .ok (.iload_n 1, 1) := by decide +kernel
theorem dX1_setConsuls_60 : decode cX1_setConsuls 60 = .ok (.iaload, 1) := by decide +kernel
theorem dX1_setConsuls_61 : decode cX1_setConsuls 61 = .ok (.ifCond .ne 16, 3) := by decide +kernel
theorem dX1_setConsuls_64 : decode cX1_setConsuls 64 = .ok (.aload_n 0, 1) := by decide +kernel
theorem dX1_setConsuls_65 : decode cX1_setConsuls 65 = .ok (.getfield 110, 3) := by decide +kernel
theorem dX1_setConsuls_68 : decode cX1_setConsuls 68 = .ok (.bipush 60, 2) := by decide +kernel
theorem dX1_setConsuls_70 : decode cX1_setConsuls 70 = .ok (.if_icmp .ne 7, 3) := by decide +kernel
theorem dX1_setConsuls_73 : decode cX1_setConsuls 73 = .ok (.iconst 3, 1) := by decide +kernel
theorem dX1_setConsuls_74 : decode cX1_setConsuls 74 = .ok (.goto 4, 3) := by decide +kernel
theorem dX1_setConsuls_77 : decode cX1_setConsuls 77 = .ok (.iconst 0, 1) := by decide +kernel
theorem dX1_setConsuls_78 : decode cX1_setConsuls 78 = .ok (.invokevirtual 62, 3) := by decide +kernel
theorem dX1_setConsuls_81 : decode cX1_setConsuls 81 = .ok (.ifCond .ne 5, 3) := by decide +kernel
theorem dX1_setConsuls_84 : decode cX1_setConsuls 84 = .ok (.iconst 0, 1) := by decide +kernel
theorem dX1_setConsuls_85 : decode cX1_setConsuls 85 = .ok (.ireturn, 1) := by decide +kernel
theorem dX1_setConsuls_86 : decode cX1_setConsuls 86 = .ok (.aload_n 0, 1) := by decide +kernel
theorem dX1_setConsuls_87 : decode cX1_setConsuls 87 = .ok (.dup, 1) := by decide +kernel
theorem dX1_setConsuls_88 : decode cX1_setConsuls 88 = .ok (.getfield 110, 3) := by decide +kernel
theorem dX1_setConsuls_91 : decode cX1_setConsuls 91 = .ok (.aload_n 0, 1) := by decide +kernel
theorem dX1_setConsuls_92 : decode cX1_setConsuls 92 = .ok (.getfield 13, 3) := by decide +kernel
theorem dX1_setConsuls_95 : decode cX1_setConsuls 95 = .ok (.iload_n 1, 1) := by decide +kernel
theorem dX1_setConsuls_96 : decode cX1_setConsuls 96 = .ok (.iaload, 1) := by decide +kernel
theorem dX1_setConsuls_97 : decode cX1_setConsuls 97 = .ok (.ifCond .ne 7, 3) := by decide +kernel
theorem dX1_setConsuls_100 : decode cX1_setConsuls 100 = .ok (.iconst 1, 1) := by decide +kernel
theorem dX1_setConsuls_101 : decode cX1_setConsuls 101 = .ok (.goto 4, 3) := by decide +kernel
theorem dX1_setConsuls_104 : decode cX1_setConsuls 104 = .ok (.iconst 0, 1) := by decide +kernel
theorem dX1_setConsuls_105 : decode cX1_setConsuls 105 = .ok (.iadd, 1) := by decide +kernel
theorem dX1_setConsuls_106 : decode cX1_setConsuls 106 = .ok (.putfield 110, 3) := by decide +kernel
theorem dX1_setConsuls_109 : decode cX1_setConsuls 109 = .ok (.aload_n 0, 1) := by decide +kernel
theorem dX1_setConsuls_110 : decode cX1_setConsuls 110 = .ok (.getfield 13, 3) := by decide +kernel
theorem dX1_setConsuls_113 : decode cX1_setConsuls 113 = .ok (.iload_n 1, 1) := by decide +kernel
theorem dX1_setConsuls_114 : decode cX1_setConsuls 114 = .ok (.iload_n 2, 1) := by decide +kernel
theorem dX1_setConsuls_115 : decode cX1_setConsuls 115 = .ok (.iastore, 1) := by decide +kernel
theorem dX1_setConsuls_116 : decode cX1_setConsuls 116 = .ok (.aload_n 0, 1) := by decide +kernel
theorem dX1_setConsuls_117 : decode cX1_setConsuls 117 = .ok (.getfield 16, 3) := by decide +kernel
theorem dX1_setConsuls_120 : decode cX1_setConsuls 120 = .ok (.iload_n 1, 1) := by decide +kernel
theorem dX1_setConsuls_121 : decode cX1_setConsuls 121 = .ok (.iload_n 3, 1) := by decide +kernel
theorem dX1_setConsuls_122 : decode cX1_setConsuls 122 = .ok (.iastore, 1) := by decide +kernel
theorem dX1_setConsuls_123 : decode cX1_setConsuls 123 = .ok (.aload_n 0, 1) := by decide +kernel
theorem dX1_setConsuls_124 : decode cX1_setConsuls 124 = .ok (.getfield 110, 3) := by decide +kernel
theorem dX1_setConsuls_127 : decode cX1_setConsuls 127 = .ok (.ireturn, 1) := by decide +kernel
set_option maxRecDepth 20000 in
theorem ggX1_strikeConsuls_X1_isYear : GoodIn wsX1_strikeConsuls wsX1_isYear := goodIn_r _ [7, 8, 9, 6, 10] (by decide +kernel) (by decide +kernel)
set_option maxRecDepth 20000 in
theorem gX1_strikeConsuls_X1_isYear : GoodIn wsX1_strikeConsuls (va_wsS RX1 66 yX1_isYear wsX1_isYear) := goodIn_app (goodIn_of _ (by decide +kernel)) ggX1_strikeConsuls_X1_isYear
set_option maxRecDepth 20000 in
theorem ggX1_strikeConsuls_X1_isFine : GoodIn wsX1_strikeConsuls wsX1_isFine := goodIn_r _ [14, 15, 16, 17, 18, 19, 20, 21, 22, 23, 24] (by decide +kernel) (by decide +kernel)
set_option maxRecDepth 20000 in
theorem gX1_strikeConsuls_X1_isFine : GoodIn wsX1_strikeConsuls (wsV RX1 62 RX1 yX1_isFine wsX1_isFine) := goodIn_app (goodIn_of _ (by decide +kernel)) ggX1_strikeConsuls_X1_isFine
theorem dX1_strikeConsuls_0 : decode cX1_strikeConsuls 0 = .ok (.aload_n 0, 1) := by decide +kernel
theorem dX1_strikeConsuls_1 : decode cX1_strikeConsuls 1 = .ok (.iload_n 1, 1) := by decide +kernel
theorem dX1_strikeConsuls_2 : decode cX1_strikeConsuls 2 = .ok (.invokestatic 66, 3) := by decide +kernel
theorem dX1_strikeConsuls_5 : decode cX1_strikeConsuls 5 = .ok (.ifCond .ne 7, 3) := by decide +kernel
theorem dX1_strikeConsuls_8 : decode cX1_strikeConsuls 8 = .ok (.iconst 1, 1) := by decide +kernel
theorem dX1_strikeConsuls_9 : decode cX1_strikeConsuls 9 = .ok (.goto 17, 3) := by decide +kernel
theorem dX1_strikeConsuls_12 : decode cX1_strikeConsuls 12 = .ok (.aload_n 0, 1) := by decide +kernel
theorem dX1_strikeConsuls_13 : decode cX1_strikeConsuls 13 = .ok (.getfield 13, 3) := by decide +kernel
theorem dX1_strikeConsuls_16 : decode cX1_strikeConsuls 16 = .ok (.iload_n 1, 1) := by decide +kernel
theorem dX1_strikeConsuls_17 : decode cX1_strikeConsuls 17 = .ok (.iaload, 1) := by decide +kernel
theorem dX1_strikeConsuls_18 : decode cX1_strikeConsuls 18 = .ok (.ifCond .ne 7, 3) := by decide +kernel
theorem dX1_strikeConsuls_21 : decode cX1_strikeConsuls 21 = .ok (.iconst 2, 1) := by decide +kernel
theorem dX1_strikeConsuls_22 : decode cX1_strikeConsuls 22 = .ok (.goto 4, 3) := by decide +kernel
theorem dX1_strikeConsuls_25 : decode cX1_strikeConsuls 25 = .ok (.iconst 0, 1) := by decide +kernel
theorem dX1_strikeConsuls_26 : decode cX1_strikeConsuls 26 = .ok (.invokevirtual 62, 3) := by decide +kernel
theorem dX1_strikeConsuls_29 : decode cX1_strikeConsuls 29 = .ok (.ifCond .ne 5, 3) := by decide +kernel
theorem dX1_strikeConsuls_32 : decode cX1_strikeConsuls 32 = .ok (.iconst 0, 1) := by decide +kernel
theorem dX1_strikeConsuls_33 : decode cX1_strikeConsuls 33 = .ok (.ireturn, 1) := by decide +kernel
theorem dX1_strikeConsuls_34 : decode cX1_strikeConsuls 34 = .ok (.aload_n 0, 1) := by decide +kernel
theorem dX1_strikeConsuls_35 : decode cX1_strikeConsuls 35 = .ok (.getfield 13, 3) := by decide +kernel
theorem dX1_strikeConsuls_38 : decode cX1_strikeConsuls 38 = .ok (.iload_n 1, 1) := by decide +kernel
theorem dX1_strikeConsuls_39 : decode cX1_strikeConsuls 39 = .ok (.iconst 0, 1) := by decide +kernel
theorem dX1_strikeConsuls_40 : decode cX1_strikeConsuls 40 = .ok (.iastore, 1) := by decide +kernel
theorem dX1_strikeConsuls_41 : decode cX1_strikeConsuls 41 = .ok (.aload_n 0, 1) := by decide +kernel
theorem dX1_strikeConsuls_42 : decode cX1_strikeConsuls 42 = .ok (.getfield 16, 3) := by decide +kernel
theorem dX1_strikeConsuls_45 : decode cX1_strikeConsuls 45 = .ok (.iload_n 1, 1) := by decide +kernel
theorem dX1_strikeConsuls_46 : decode cX1_strikeConsuls 46 = .ok (.iconst 0, 1) := by decide +kernel
theorem dX1_strikeConsuls_47 : decode cX1_strikeConsuls 47 = .ok (.iastore, 1) := by decide +kernel
theorem dX1_strikeConsuls_48 : decode cX1_strikeConsuls 48 = .ok (.aload_n 0, 1) := by decide +kernel
theorem dX1_strikeConsuls_49 : decode cX1_strikeConsuls 49 = .ok (.dup, 1) := by decide +kernel
theorem dX1_strikeConsuls_50 : decode cX1_strikeConsuls 50 = .ok (.getfield 110, 3) := by decide +kernel
theorem dX1_strikeConsuls_53 : decode cX1_strikeConsuls 53 = .ok (.iconst 1, 1) := by decide +kernel
theorem dX1_strikeConsuls_54 : decode cX1_strikeConsuls 54 = .ok (.isub, 1) := by decide +kernel
theorem dX1_strikeConsuls_55 : decode cX1_strikeConsuls 55 = .ok (.putfield 110, 3) := by decide +kernel
theorem dX1_strikeConsuls_58 : decode cX1_strikeConsuls 58 = .ok (.aload_n 0, 1) := by decide +kernel
theorem dX1_strikeConsuls_59 : decode cX1_strikeConsuls 59 = .ok (.getfield 110, 3) := by decide +kernel
theorem dX1_strikeConsuls_62 : decode cX1_strikeConsuls 62 = .ok (.ireturn, 1) := by decide +kernel
set_option maxRecDepth 20000 in
theorem ggX1_consulsOf_X1_isYear : GoodIn wsX1_consulsOf wsX1_isYear := goodIn_r _ [6, 7, 8, 5, 9] (by decide +kernel) (by decide +kernel)
set_option maxRecDepth 20000 in
theorem gX1_consulsOf_X1_isYear : GoodIn wsX1_consulsOf (va_wsS RX1 66 yX1_isYear wsX1_isYear) := goodIn_app (goodIn_of _ (by decide +kernel)) ggX1_consulsOf_X1_isYear
set_option maxRecDepth 20000 in
theorem ggX1_consulsOf_X1_isFine : GoodIn wsX1_consulsOf wsX1_isFine := goodIn_r _ [13, 14, 15, 16, 17, 18, 19, 20, 21, 22, 23] (by decide +kernel) (by decide +kernel)
set_option maxRecDepth 20000 in
theorem gX1_consulsOf_X1_isFine : GoodIn wsX1_consulsOf (wsV RX1 62 RX1 yX1_isFine wsX1_isFine) := goodIn_app (goodIn_of _ (by decide +kernel)) ggX1_consulsOf_X1_isFine
theorem dX1_consulsOf_0 : decode cX1_consulsOf 0 = .ok (.aload_n 0, 1) := by decide +kernel
theorem dX1_consulsOf_1 : decode cX1_consulsOf 1 = .ok (.iload_n 1, 1) := by decide +kernel
theorem dX1_consulsOf_2 : decode cX1_consulsOf 2 = .ok (.invokestatic 66, 3) := by decide +kernel
theorem dX1_consulsOf_5 : decode cX1_consulsOf 5 = .ok (.ifCond .eq 7, 3) := by decide +kernel
theorem dX1_consulsOf_8 : decode cX1_consulsOf 8 = .ok (.iconst 0, 1) := by decide +kernel
theorem dX1_consulsOf_9 : decode cX1_consulsOf 9 = .ok (.goto 4, 3) := by decide +kernel
theorem dX1_consulsOf_12 : decode cX1_consulsOf 12 = .ok (.iconst 1, 1) := by decide +kernel
theorem dX1_consulsOf_13 : decode cX1_consulsOf 13 = .ok (.invokevirtual 62, 3) := by decide +kernel
theorem dX1_consulsOf_16 : decode cX1_consulsOf 16 = .ok (.ifCond .ne 5, 3) := by decide +kernel
theorem dX1_consulsOf_19 : decode cX1_consulsOf 19 = .ok (.iconst 0, 1) := by decide +kernel
theorem dX1_consulsOf_20 : decode cX1_consulsOf 20 = .ok (.ireturn, 1) := by decide +kernel
theorem dX1_consulsOf_21 : decode cX1_consulsOf 21 = .ok (.aload_n 0, 1) := by decide +kernel
theorem dX1_consulsOf_22 : decode cX1_consulsOf 22 = .ok (.getfield 13, 3) := by decide +kernel
theorem dX1_consulsOf_25 : decode cX1_consulsOf 25 = .ok (.iload_n 1, 1) := by decide +kernel
theorem dX1_consulsOf_26 : decode cX1_consulsOf 26 = .ok (.iaload, 1) := by decide +kernel
theorem dX1_consulsOf_27 : decode cX1_consulsOf 27 = .ok (.ifCond .ne 7, 3) := by decide +kernel
theorem dX1_consulsOf_30 : decode cX1_consulsOf 30 = .ok (.iconst (-1), 1) := by decide +kernel
theorem dX1_consulsOf_31 : decode cX1_consulsOf 31 = .ok (.goto 20, 3) := by decide +kernel
theorem dX1_consulsOf_34 : decode cX1_consulsOf 34 = .ok (.sipush 1000, 3) := by decide +kernel
theorem dX1_consulsOf_37 : decode cX1_consulsOf 37 = .ok (.aload_n 0, 1) := by decide +kernel
theorem dX1_consulsOf_38 : decode cX1_consulsOf 38 = .ok (.getfield 13, 3) := by decide +kernel
theorem dX1_consulsOf_41 : decode cX1_consulsOf 41 = .ok (.iload_n 1, 1) := by decide +kernel
theorem dX1_consulsOf_42 : decode cX1_consulsOf 42 = .ok (.iaload, 1) := by decide +kernel
theorem dX1_consulsOf_43 : decode cX1_consulsOf 43 = .ok (.imul, 1) := by decide +kernel
theorem dX1_consulsOf_44 : decode cX1_consulsOf 44 = .ok (.aload_n 0, 1) := by decide +kernel
theorem dX1_consulsOf_45 : decode cX1_consulsOf 45 = .ok (.getfield 16, 3) := by decide +kernel
theorem dX1_consulsOf_48 : decode cX1_consulsOf 48 = .ok (.iload_n 1, 1) := by decide +kernel
theorem dX1_consulsOf_49 : decode cX1_consulsOf 49 = .ok (.iaload, 1) := by decide +kernel
theorem dX1_consulsOf_50 : decode cX1_consulsOf 50 = .ok (.iadd, 1) := by decide +kernel
theorem dX1_consulsOf_51 : decode cX1_consulsOf 51 = .ok (.ireturn, 1) := by decide +kernel
set_option maxRecDepth 20000 in
theorem ggX1_afterConsuls_X1_isYear : GoodIn wsX1_afterConsuls wsX1_isYear := goodIn_r _ [5, 6, 7, 4, 8] (by decide +kernel) (by decide +kernel)
set_option maxRecDepth 20000 in
theorem gX1_afterConsuls_X1_isYear : GoodIn wsX1_afterConsuls (va_wsS RX1 66 yX1_isYear wsX1_isYear) := goodIn_app (goodIn_of _ (by decide +kernel)) ggX1_afterConsuls_X1_isYear
set_option maxRecDepth 20000 in
theorem ggX1_afterConsuls_X1_isFine : GoodIn wsX1_afterConsuls wsX1_isFine := goodIn_r _ [12, 13, 14, 15, 16, 17, 18, 19, 20, 21, 22] (by decide +kernel) (by decide +kernel)
set_option maxRecDepth 20000 in
theorem gX1_afterConsuls_X1_isFine : GoodIn wsX1_afterConsuls (wsV RX1 62 RX1 yX1_isFine wsX1_isFine) := goodIn_app (goodIn_of _ (by decide +kernel)) ggX1_afterConsuls_X1_isFine
theorem dX1_afterConsuls_0 : decode cX1_afterConsuls 0 = .ok (.aload_n 0, 1) := by decide +kernel
theorem dX1_afterConsuls_1 : decode cX1_afterConsuls 1 = .ok (.iload_n 1, 1) := by decide +kernel
theorem dX1_afterConsuls_2 : decode cX1_afterConsuls 2 = .ok (.invokestatic 66, 3) := by decide +kernel
theorem dX1_afterConsuls_5 : decode cX1_afterConsuls 5 = .ok (.ifCond .eq 7, 3) := by decide +kernel
theorem dX1_afterConsuls_8 : decode cX1_afterConsuls 8 = .ok (.iconst 0, 1) := by decide +kernel
theorem dX1_afterConsuls_9 : decode cX1_afterConsuls 9 = .ok (.goto 4, 3) := by decide +kernel
theorem dX1_afterConsuls_12 : decode cX1_afterConsuls 12 = .ok (.iconst 1, 1) := by decide +kernel
theorem dX1_afterConsuls_13 : decode cX1_afterConsuls 13 = .ok (.invokevirtual 62, 3) := by decide +kernel
theorem dX1_afterConsuls_16 : decode cX1_afterConsuls 16 = .ok (.ifCond .ne 5, 3) := by decide +kernel
theorem dX1_afterConsuls_19 : decode cX1_afterConsuls 19 = .ok (.iconst 0, 1) := by decide +kernel
theorem dX1_afterConsuls_20 : decode cX1_afterConsuls 20 = .ok (.ireturn, 1) := by decide +kernel
theorem dX1_afterConsuls_21 : decode cX1_afterConsuls 21 = .ok (.iload_n 1, 1) := by decide +kernel
theorem dX1_afterConsuls_22 : decode cX1_afterConsuls 22 = .ok (.istore_n 2, 1) := by decide +kernel
theorem dX1_afterConsuls_23 : decode cX1_afterConsuls 23 = .ok (.iload_n 2, 1) := by decide +kernel
theorem dX1_afterConsuls_24 : decode cX1_afterConsuls 24 = .ok (.ifCond .le 18, 3) := by decide +kernel
theorem dX1_afterConsuls_27 : decode cX1_afterConsuls 27 = .ok (.aload_n 0, 1) := by decide +kernel
theorem dX1_afterConsuls_28 : decode cX1_afterConsuls 28 = .ok (.getfield 13, 3) := by decide +kernel
theorem dX1_afterConsuls_31 : decode cX1_afterConsuls 31 = .ok (.iload_n 2, 1) := by decide +kernel
theorem dX1_afterConsuls_32 : decode cX1_afterConsuls 32 = .ok (.iaload, 1) := by decide +kernel
theorem dX1_afterConsuls_33 : decode cX1_afterConsuls 33 = .ok (.ifCond .ne 9, 3) := by decide +kernel
theorem dX1_afterConsuls_36 : decode cX1_afterConsuls 36 = .ok (.iinc 2 (-1), 3) := by decide +kernel
theorem dX1_afterConsuls_39 : decode cX1_afterConsuls 39 = .ok (.goto (-16), 3) := by decide +kernel
theorem dX1_afterConsuls_42 : decode cX1_afterConsuls 42 = .ok (.iload_n 2, 1) := by decide +kernel
theorem dX1_afterConsuls_43 : decode cX1_afterConsuls 43 = .ok (.ifCond .ne 7, 3) := by decide +kernel
theorem dX1_afterConsuls_46 : decode cX1_afterConsuls 46 = .ok (.iconst (-1), 1) := by decide +kernel
theorem dX1_afterConsuls_47 : decode cX1_afterConsuls 47 = .ok (.goto 6, 3) := by decide +kernel
theorem dX1_afterConsuls_50 : decode cX1_afterConsuls 50 = .ok (.iload_n 1, 1) := by decide +kernel
theorem dX1_afterConsuls_51 : decode cX1_afterConsuls 51 = .ok (.iload_n 2, 1) := by decide +kernel
theorem dX1_afterConsuls_52 : decode cX1_afterConsuls 52 = .ok (.isub, 1) := by decide +kernel
theorem dX1_afterConsuls_53 : decode cX1_afterConsuls 53 = .ok (.ireturn, 1) := by decide +kernel
set_option maxRecDepth 20000 in
theorem ggX1_yearOfConsuls_X1_isFine : GoodIn wsX1_yearOfConsuls wsX1_isFine := goodIn_r _ [7, 8, 9, 10, 11, 12, 13, 14, 15, 16, 17] (by decide +kernel) (by decide +kernel)
set_option maxRecDepth 20000 in
theorem gX1_yearOfConsuls_X1_isFine : GoodIn wsX1_yearOfConsuls (wsV RX1 62 RX1 yX1_isFine wsX1_isFine) := goodIn_app (goodIn_of _ (by decide +kernel)) ggX1_yearOfConsuls_X1_isFine
theorem dX1_yearOfConsuls_0 : decode cX1_yearOfConsuls 0 = .ok (.aload_n 0, 1) := by decide +kernel
theorem dX1_yearOfConsuls_1 : decode cX1_yearOfConsuls 1 = .ok (.iload_n 3, 1) := by decide +kernel
theorem dX1_yearOfConsuls_2 : decode cX1_yearOfConsuls 2 = .ok (.iconst 1, 1) := by decide +kernel
theorem dX1_yearOfConsuls_3 : decode cX1_yearOfConsuls 3 = .ok (.if_icmp .lt 7, 3) := by decide +kernel
theorem dX1_yearOfConsuls_6 : decode cX1_yearOfConsuls 6 = .ok (.iconst 0, 1) := by decide +kernel
theorem dX1_yearOfConsuls_7 : decode cX1_yearOfConsuls 7 = .ok (.goto 4, 3) := by decide +kernel
theorem dX1_yearOfConsuls_10 : decode cX1_yearOfConsuls 10 = .ok (.iconst 1, 1) := by decide +kernel
theorem dX1_yearOfConsuls_11 : decode cX1_yearOfConsuls 11 = .ok (.invokevirtual 62, 3) := by decide +kernel
theorem dX1_yearOfConsuls_14 : decode cX1_yearOfConsuls 14 = .ok (.ifCond .ne 5, 3) := by decide +kernel
theorem dX1_yearOfConsuls_17 : decode cX1_yearOfConsuls 17 = .ok (.iconst 0, 1) := by decide +kernel
theorem dX1_yearOfConsuls_18 : decode cX1_yearOfConsuls 18 = .ok (.ireturn, 1) := by decide +kernel
theorem dX1_yearOfConsuls_19 : decode cX1_yearOfConsuls 19 = .ok (.iload_n 3, 1) := by decide +kernel
theorem dX1_yearOfConsuls_20 : decode cX1_yearOfConsuls 20 = .ok (.istore 4, 2) := by decide +kernel
theorem dX1_yearOfConsuls_22 : decode cX1_yearOfConsuls 22 = .ok (.iconst 1, 1) := by decide +kernel
theorem dX1_yearOfConsuls_23 : decode cX1_yearOfConsuls 23 = .ok (.istore 5, 2) := by decide +kernel
theorem dX1_yearOfConsuls_25 : decode cX1_yearOfConsuls 25 = .ok (.iload 5, 2) := by decide +kernel
theorem dX1_yearOfConsuls_27 : decode cX1_yearOfConsuls 27 = .ok (.sipush 3000, 3) := by decide +kernel
theorem dX1_yearOfConsuls_30 : decode cX1_yearOfConsuls 30 = .ok (.if_icmp .gt 67, 3) := by decide +kernel
theorem dX1_yearOfConsuls_33 : decode cX1_yearOfConsuls 33 = .ok (.aload_n 0, 1) := by decide +kernel
theorem dX1_yearOfConsuls_34 : decode cX1_yearOfConsuls 34 = .ok (.getfield 13, 3) := by decide +kernel
theorem dX1_yearOfConsuls_37 : decode cX1_yearOfConsuls 37 = .ok (.iload 5, 2) := by decide +kernel
theorem dX1_yearOfConsuls_39 : decode cX1_yearOfConsuls 39 = .ok (.iaload, 1) := by decide +kernel
theorem dX1_yearOfConsuls_40 : decode cX1_yearOfConsuls 40 = .ok (.istore 6, 2) := by decide +kernel
theorem dX1_yearOfConsuls_42 : decode cX1_yearOfConsuls 42 = .ok (.aload_n 0, 1) := by decide +kernel
theorem dX1_yearOfConsuls_43 : decode cX1_yearOfConsuls 43 = .ok (.getfield 16, 3) := by decide +kernel
theorem dX1_yearOfConsuls_46 : decode cX1_yearOfConsuls 46 = .ok (.iload 5, 2) := by decide +kernel
theorem dX1_yearOfConsuls_48 : decode cX1_yearOfConsuls 48 = .ok (.iaload, 1) := by decide +kernel
theorem dX1_yearOfConsuls_49 : decode cX1_yearOfConsuls 49 = .ok (.istore 7, 2) := by decide +kernel
theorem dX1_yearOfConsuls_51 : decode cX1_yearOfConsuls 51 = .ok (.iload 6, 2) := by decide +kernel
theorem dX1_yearOfConsuls_53 : decode cX1_yearOfConsuls 53 = .ok (.ifCond .le 38, 3) := by decide +kernel
theorem dX1_yearOfConsuls_56 : decode cX1_yearOfConsuls 56 = .ok (.iload 6, 2) := by decide +kernel
theorem dX1_yearOfConsuls_58 : decode cX1_yearOfConsuls 58 = .ok (.iload_n 1, 1) := by decide +kernel
theorem dX1_yearOfConsuls_59 : decode cX1_yearOfConsuls 59 = .ok (.if_icmp .ne 9, 3) := by decide +kernel
theorem dX1_yearOfConsuls_62 : decode cX1_yearOfConsuls 62 = .ok (.iload 7, 2) := by decide +kernel
theorem dX1_yearOfConsuls_64 : decode cX1_yearOfConsuls 64 = .ok (.iload_n 2, 1) := by decide +kernel
theorem dX1_yearOfConsuls_65 : decode cX1_yearOfConsuls 65 = .ok (.if_icmp .eq 15, 3) := by decide +kernel
theorem dX1_yearOfConsuls_68 : decode cX1_yearOfConsuls 68 = .ok (.iload 6, 2) := by decide +kernel
theorem dX1_yearOfConsuls_70 : decode cX1_yearOfConsuls 70 = .ok (.iload_n 2, 1) := by decide +kernel
theorem dX1_yearOfConsuls_71 : decode cX1_yearOfConsuls 71 = .ok (.if_icmp .ne 20, 3) := by decide +kernel
theorem dX1_yearOfConsuls_74 : decode cX1_yearOfConsuls 74 = .ok (.iload 7, 2) := by decide +kernel
theorem dX1_yearOfConsuls_76 : decode cX1_yearOfConsuls 76 = .ok (.iload_n 1, 1) := by decide +kernel
theorem dX1_yearOfConsuls_77 : decode cX1_yearOfConsuls 77 = .ok (.if_icmp .ne 14, 3) := by decide +kernel
theorem dX1_yearOfConsuls_80 : decode cX1_yearOfConsuls 80 = .ok (.iinc 4 (-1), 3) := by decide +kernel
theorem dX1_yearOfConsuls_83 : decode cX1_yearOfConsuls 83 = .ok (.iload 4, 2) := by decide +kernel
theorem dX1_yearOfConsuls_85 : decode cX1_yearOfConsuls 85 = .ok (.ifCond .ne 6, 3) := by decide +kernel
theorem dX1_yearOfConsuls_88 : decode cX1_yearOfConsuls 88 = .ok (.iload 5, 2) := by decide +kernel
theorem dX1_yearOfConsuls_90 : decode cX1_yearOfConsuls 90 = .ok (.ireturn, 1) := by decide +kernel
theorem dX1_yearOfConsuls_91 : decode cX1_yearOfConsuls 91 = .ok (.iinc 5 1, 3) := by decide +kernel
theorem dX1_yearOfConsuls_94 : decode cX1_yearOfConsuls 94 = .ok (.goto (-69), 3) := by decide +kernel
theorem dX1_yearOfConsuls_97 : decode cX1_yearOfConsuls 97 = .ok (.iconst (-1), 1) := by decide +kernel
theorem dX1_yearOfConsuls_98 : decode cX1_yearOfConsuls 98 = .ok (.ireturn, 1) := by decide +kernel
set_option maxRecDepth 20000 in
theorem ggX1_setCharacter_X1_isIn : GoodIn wsX1_setCharacter wsX1_isIn := goodIn_r _ [5] (by decide +kernel) (by decide +kernel)
set_option maxRecDepth 20000 in
theorem gX1_setCharacter_X1_isIn : GoodIn wsX1_setCharacter (va_wsS RX1 40 yX1_isIn wsX1_isIn) := goodIn_app (goodIn_of _ (by decide +kernel)) ggX1_setCharacter_X1_isIn
set_option maxRecDepth 20000 in
theorem ggX1_setCharacter_X1_isFine : GoodIn wsX1_setCharacter wsX1_isFine := goodIn_r _ [9, 10, 11, 12, 13, 14, 15, 16, 17, 18, 19] (by decide +kernel) (by decide +kernel)
set_option maxRecDepth 20000 in
theorem gX1_setCharacter_X1_isFine : GoodIn wsX1_setCharacter (wsV RX1 62 RX1 yX1_isFine wsX1_isFine) := goodIn_app (goodIn_of _ (by decide +kernel)) ggX1_setCharacter_X1_isFine
theorem dX1_setCharacter_0 : decode cX1_setCharacter 0 = .ok (.aload_n 0, 1) := by decide +kernel
theorem dX1_setCharacter_1 : decode cX1_setCharacter 1 = .ok (.iload_n 1, 1) := by decide +kernel
theorem dX1_setCharacter_2 : decode cX1_setCharacter 2 = .ok (.iconst 1, 1) := by decide +kernel
theorem dX1_setCharacter_3 : decode cX1_setCharacter 3 = .ok (.sipush 365, 3) := by decide +kernel
theorem dX1_setCharacter_6 : decode cX1_setCharacter 6 = .ok (.invokestatic 40, 3) := by decide +kernel
theorem dX1_setCharacter_9 : decode cX1_setCharacter 9 = .ok (.ifCond .ne 7, 3) := by decide +kernel
theorem dX1_setCharacter_12 : decode cX1_setCharacter 12 = .ok (.iconst 1, 1) := by decide +kernel
theorem dX1_setCharacter_13 : decode cX1_setCharacter 13 = .ok (.goto 17, 3) := by decide +kernel
theorem dX1_setCharacter_16 : decode cX1_setCharacter 16 = .ok (.iload_n 2, 1) := by decide +kernel
theorem dX1_setCharacter_17 : decode cX1_setCharacter 17 = .ok (.iconst 0, 1) := by decide +kernel
theorem dX1_setCharacter_18 : decode cX1_setCharacter 18 = .ok (.iconst 3, 1) := by decide +kernel
theorem dX1_setCharacter_19 : decode cX1_setCharacter 19 = .ok (.invokestatic 40, 3) := by decide +kernel
theorem dX1_setCharacter_22 : decode cX1_setCharacter 22 = .ok (.ifCond .ne 7, 3) := by decide +kernel
theorem dX1_setCharacter_25 : decode cX1_setCharacter 25 = .ok (.iconst 2, 1) := by decide +kernel
theorem dX1_setCharacter_26 : decode cX1_setCharacter 26 = .ok (.goto 4, 3) := by decide +kernel
theorem dX1_setCharacter_29 : decode cX1_setCharacter 29 = .ok (.iconst 0, 1) := by decide +kernel
theorem dX1_setCharacter_30 : decode cX1_setCharacter 30 = .ok (.invokevirtual 62, 3) := by decide +kernel
theorem dX1_setCharacter_33 : decode cX1_setCharacter 33 = .ok (.ifCond .ne 5, 3) := by decide +kernel
theorem dX1_setCharacter_36 : decode cX1_setCharacter 36 = .ok (.iconst 0, 1) := by decide +kernel
theorem dX1_setCharacter_37 : decode cX1_setCharacter 37 = .ok (.ireturn, 1) := by decide +kernel
theorem dX1_setCharacter_38 : decode cX1_setCharacter 38 = .ok (.aload_n 0, 1) := by decide +kernel
theorem dX1_setCharacter_39 : decode cX1_setCharacter 39 = .ok (.getfield 7, 3) := by decide +kernel
theorem dX1_setCharacter_42 : decode cX1_setCharacter 42 = .ok (.iload_n 1, 1) := by decide +kernel
theorem dX1_setCharacter_43 : decode cX1_setCharacter 43 = .ok (.iaload, 1) := by decide +kernel
theorem dX1_setCharacter_44 : decode cX1_setCharacter 44 = .ok (.istore_n 3, 1) := by decide +kernel
theorem dX1_setCharacter_45 : decode cX1_setCharacter 45 = .ok (.aload_n 0, 1) := by decide +kernel
theorem dX1_setCharacter_46 : decode cX1_setCharacter 46 = .ok (.getfield 7, 3) := by decide +kernel
theorem dX1_setCharacter_49 : decode cX1_setCharacter 49 = .ok (.iload_n 1, 1) := by decide +kernel
theorem dX1_setCharacter_50 : decode cX1_setCharacter 50 = .ok (.iload_n 2, 1) := by decide +kernel
theorem dX1_setCharacter_51 : decode cX1_setCharacter 51 = .ok (.iastore, 1) := by decide +kernel
theorem dX1_setCharacter_52 : decode cX1_setCharacter 52 = .ok (.iload_n 3, 1) := by decide +kernel
theorem dX1_setCharacter_53 : decode cX1_setCharacter 53 = .ok (.ireturn, 1) := by decide +kernel
set_option maxRecDepth 20000 in
theorem ggX1_characterOf_X1_isDay : GoodIn wsX1_characterOf wsX1_isDay := goodIn_r _ [5, 6, 7, 8, 4, 9] (by decide +kernel) (by decide +kernel)
set_option maxRecDepth 20000 in
theorem gX1_characterOf_X1_isDay : GoodIn wsX1_characterOf (va_wsS RX1 59 yX1_isDay wsX1_isDay) := goodIn_app (goodIn_of _ (by decide +kernel)) ggX1_characterOf_X1_isDay
set_option maxRecDepth 20000 in
theorem ggX1_characterOf_X1_isFine : GoodIn wsX1_characterOf wsX1_isFine := goodIn_r _ [13, 14, 35, 36, 37, 38, 39, 40, 41, 42, 43] (by decide +kernel) (by decide +kernel)
set_option maxRecDepth 20000 in
theorem gX1_characterOf_X1_isFine : GoodIn wsX1_characterOf (wsV RX1 62 RX1 yX1_isFine wsX1_isFine) := goodIn_app (goodIn_of _ (by decide +kernel)) ggX1_characterOf_X1_isFine
set_option maxRecDepth 20000 in
theorem ggX1_characterOf_X1_placed : GoodIn wsX1_characterOf wsX1_placed := goodIn_r _ [18, 19, 20, 21, 22, 23, 24, 4, 25, 26, 27, 28, 29, 30, 31, 32, 33, 34, 35, 36, 37, 38, 39, 40, 41, 42, 43] (by decide +kernel) (by decide +kernel)
set_option maxRecDepth 20000 in
theorem gX1_characterOf_X1_placed : GoodIn wsX1_characterOf (wsV RX1 101 RX1 yX1_placed wsX1_placed) := goodIn_app (goodIn_of _ (by decide +kernel)) ggX1_characterOf_X1_placed
theorem dX1_characterOf_0 : decode cX1_characterOf 0 = .ok (.aload_n 0, 1) := by decide +kernel
theorem dX1_characterOf_1 : decode cX1_characterOf 1 = .ok (.iload_n 1, 1) := by decide +kernel
theorem dX1_characterOf_2 : decode cX1_characterOf 2 = .ok (.invokestatic 59, 3) := by decide +kernel
theorem dX1_characterOf_5 : decode cX1_characterOf 5 = .ok (.ifCond .eq 7, 3) := by decide +kernel
theorem dX1_characterOf_8 : decode cX1_characterOf 8 = .ok (.iconst 0, 1) := by decide +kernel
theorem dX1_characterOf_9 : decode cX1_characterOf 9 = .ok (.goto 4, 3) := by decide +kernel
theorem dX1_characterOf_12 : decode cX1_characterOf 12 = .ok (.iconst 1, 1) := by decide +kernel
theorem dX1_characterOf_13 : decode cX1_characterOf 13 = .ok (.invokevirtual 62, 3) := by decide +kernel
theorem dX1_characterOf_16 : decode cX1_characterOf 16 = .ok (.ifCond .eq 16, 3) := by decide +kernel
theorem dX1_characterOf_19 : decode cX1_characterOf 19 = .ok (.aload_n 0, 1) := by decide +kernel
theorem dX1_characterOf_20 : decode cX1_characterOf 20 = .ok (.getfield 7, 3) := by decide +kernel
theorem dX1_characterOf_23 : decode cX1_characterOf 23 = .ok (.aload_n 0, 1) := by decide +kernel
theorem dX1_characterOf_24 : decode cX1_characterOf 24 = .ok (.iload_n 1, 1) := by decide +kernel
theorem dX1_characterOf_25 : decode cX1_characterOf 25 = .ok (.invokevirtual 101, 3) := by decide +kernel
theorem dX1_characterOf_28 : decode cX1_characterOf 28 = .ok (.iaload, 1) := by decide +kernel
theorem dX1_characterOf_29 : decode cX1_characterOf 29 = .ok (.goto 4, 3) := by decide +kernel
theorem dX1_characterOf_32 : decode cX1_characterOf 32 = .ok (.iconst 0, 1) := by decide +kernel
theorem dX1_characterOf_33 : decode cX1_characterOf 33 = .ok (.ireturn, 1) := by decide +kernel
set_option maxRecDepth 20000 in
theorem ggX1_isVoting_X1_placed : GoodIn wsX1_isVoting wsX1_placed := goodIn_r _ [7, 8, 9, 10, 11, 12, 13, 6, 14, 15, 16, 17, 18, 19, 20, 21, 22, 23, 24, 25, 26, 27, 28, 29, 30, 31, 32] (by decide +kernel) (by decide +kernel)
set_option maxRecDepth 20000 in
theorem gX1_isVoting_X1_placed : GoodIn wsX1_isVoting (wsV RX1 101 RX1 yX1_placed wsX1_placed) := goodIn_app (goodIn_of _ (by decide +kernel)) ggX1_isVoting_X1_placed
theorem dX1_isVoting_0 : decode cX1_isVoting 0 = .ok (.aload_n 0, 1) := by decide +kernel
theorem dX1_isVoting_1 : decode cX1_isVoting 1 = .ok (.getfield 7, 3) := by decide +kernel
theorem dX1_isVoting_4 : decode cX1_isVoting 4 = .ok (.aload_n 0, 1) := by decide +kernel
theorem dX1_isVoting_5 : decode cX1_isVoting 5 = .ok (.iload_n 1, 1) := by decide +kernel
theorem dX1_isVoting_6 : decode cX1_isVoting 6 = .ok (.invokevirtual 101, 3) := by decide +kernel
theorem dX1_isVoting_9 : decode cX1_isVoting 9 = .ok (.iaload, 1) := by decide +kernel
theorem dX1_isVoting_10 : decode cX1_isVoting 10 = .ok (.iconst 2, 1) := by decide +kernel
theorem dX1_isVoting_11 : decode cX1_isVoting 11 = .ok (.if_icmp .ne 18, 3) := by decide +kernel
theorem dX1_isVoting_14 : decode cX1_isVoting 14 = .ok (.iload_n 1, 1) := by decide +kernel
theorem dX1_isVoting_15 : decode cX1_isVoting 15 = .ok (.bipush 8, 2) := by decide +kernel
theorem dX1_isVoting_17 : decode cX1_isVoting 17 = .ok (.irem, 1) := by decide +kernel
theorem dX1_isVoting_18 : decode cX1_isVoting 18 = .ok (.aload_n 0, 1) := by decide +kernel
theorem dX1_isVoting_19 : decode cX1_isVoting 19 = .ok (.getfield 104, 3) := by decide +kernel
theorem dX1_isVoting_22 : decode cX1_isVoting 22 = .ok (.if_icmp .eq 7, 3) := by decide +kernel
theorem dX1_isVoting_25 : decode cX1_isVoting 25 = .ok (.iconst 1, 1) := by decide +kernel
theorem dX1_isVoting_26 : decode cX1_isVoting 26 = .ok (.goto 4, 3) := by decide +kernel
theorem dX1_isVoting_29 : decode cX1_isVoting 29 = .ok (.iconst 0, 1) := by decide +kernel
theorem dX1_isVoting_30 : decode cX1_isVoting 30 = .ok (.ireturn, 1) := by decide +kernel
set_option maxRecDepth 20000 in
theorem ggX1_canVote_X1_isDay : GoodIn wsX1_canVote wsX1_isDay := goodIn_r _ [4, 5, 6, 7, 3, 8] (by decide +kernel) (by decide +kernel)
set_option maxRecDepth 20000 in
theorem gX1_canVote_X1_isDay : GoodIn wsX1_canVote (va_wsS RX1 59 yX1_isDay wsX1_isDay) := goodIn_app (goodIn_of _ (by decide +kernel)) ggX1_canVote_X1_isDay
set_option maxRecDepth 20000 in
theorem ggX1_canVote_X1_isFine : GoodIn wsX1_canVote wsX1_isFine := goodIn_r _ [12, 13, 40, 41, 42, 43, 44, 45, 46, 47, 48] (by decide +kernel) (by decide +kernel)
set_option maxRecDepth 20000 in
theorem gX1_canVote_X1_isFine : GoodIn wsX1_canVote (wsV RX1 62 RX1 yX1_isFine wsX1_isFine) := goodIn_app (goodIn_of _ (by decide +kernel)) ggX1_canVote_X1_isFine
set_option maxRecDepth 20000 in
theorem ggX1_canVote_X1_isVoting : GoodIn wsX1_canVote wsX1_isVoting := goodIn_r _ [17, 18, 19, 20, 21, 22, 3, 23, 24, 25, 26, 27, 28, 29, 30, 31, 32, 33, 34, 35, 36, 37, 38, 39, 40, 41, 42, 43, 44, 45, 46, 47, 48] (by decide +kernel) (by decide +kernel)
set_option maxRecDepth 20000 in
theorem gX1_canVote_X1_isVoting : GoodIn wsX1_canVote (wsV RX1 113 RX1 yX1_isVoting wsX1_isVoting) := goodIn_app (goodIn_of _ (by decide +kernel)) ggX1_canVote_X1_isVoting
theorem dX1_canVote_0 : decode cX1_canVote 0 = .ok (.aload_n 0, 1) := by decide +kernel
theorem dX1_canVote_1 : decode cX1_canVote 1 = .ok (.iload_n 1, 1) := by decide +kernel
theorem dX1_canVote_2 : decode cX1_canVote 2 = .ok (.invokestatic 59, 3) := by decide +kernel
theorem dX1_canVote_5 : decode cX1_canVote 5 = .ok (.ifCond .eq 7, 3) := by decide +kernel
theorem dX1_canVote_8 : decode cX1_canVote 8 = .ok (.iconst 0, 1) := by decide +kernel
theorem dX1_canVote_9 : decode cX1_canVote 9 = .ok (.goto 4, 3) := by decide +kernel
theorem dX1_canVote_12 : decode cX1_canVote 12 = .ok (.iconst 1, 1) := by decide +kernel
theorem dX1_canVote_13 : decode cX1_canVote 13 = .ok (.invokevirtual 62, 3) := by decide +kernel
theorem dX1_canVote_16 : decode cX1_canVote 16 = .ok (.ifCond .eq 15, 3) := by decide +kernel
theorem dX1_canVote_19 : decode cX1_canVote 19 = .ok (.aload_n 0, 1) := by decide +kernel
theorem dX1_canVote_20 : decode cX1_canVote 20 = .ok (.iload_n 1, 1) := by decide +kernel
theorem dX1_canVote_21 : decode cX1_canVote 21 = .ok (.invokevirtual 113, 3) := by decide +kernel
theorem dX1_canVote_24 : decode cX1_canVote 24 = .ok (.ifCond .eq 7, 3) := by decide +kernel
theorem dX1_canVote_27 : decode cX1_canVote 27 = .ok (.iconst 1, 1) := by decide +kernel
theorem dX1_canVote_28 : decode cX1_canVote 28 = .ok (.goto 4, 3) := by decide +kernel
theorem dX1_canVote_31 : decode cX1_canVote 31 = .ok (.iconst 0, 1) := by decide +kernel
theorem dX1_canVote_32 : decode cX1_canVote 32 = .ok (.ireturn, 1) := by decide +kernel
set_option maxRecDepth 20000 in
theorem ggX1_nextCourt_X1_isDay : GoodIn wsX1_nextCourt wsX1_isDay := goodIn_r _ [6, 7, 8, 9, 5, 10] (by decide +kernel) (by decide +kernel)
set_option maxRecDepth 20000 in
theorem gX1_nextCourt_X1_isDay : GoodIn wsX1_nextCourt (va_wsS RX1 59 yX1_isDay wsX1_isDay) := goodIn_app (goodIn_of _ (by decide +kernel)) ggX1_nextCourt_X1_isDay
set_option maxRecDepth 20000 in
theorem ggX1_nextCourt_X1_isFine : GoodIn wsX1_nextCourt wsX1_isFine := goodIn_r _ [14, 15, 36, 37, 38, 39, 40, 41, 42, 43, 44] (by decide +kernel) (by decide +kernel)
set_option maxRecDepth 20000 in
theorem gX1_nextCourt_X1_isFine : GoodIn wsX1_nextCourt (wsV RX1 62 RX1 yX1_isFine wsX1_isFine) := goodIn_app (goodIn_of _ (by decide +kernel)) ggX1_nextCourt_X1_isFine
set_option maxRecDepth 20000 in
theorem ggX1_nextCourt_X1_placed : GoodIn wsX1_nextCourt wsX1_placed := goodIn_r _ [19, 20, 21, 22, 23, 24, 25, 5, 26, 27, 28, 29, 30, 31, 32, 33, 34, 35, 36, 37, 38, 39, 40, 41, 42, 43, 44] (by decide +kernel) (by decide +kernel)
set_option maxRecDepth 20000 in
theorem gX1_nextCourt_X1_placed : GoodIn wsX1_nextCourt (wsV RX1 101 RX1 yX1_placed wsX1_placed) := goodIn_app (goodIn_of _ (by decide +kernel)) ggX1_nextCourt_X1_placed
theorem dX1_nextCourt_0 : decode cX1_nextCourt 0 = .ok (.aload_n 0, 1) := by decide +kernel
theorem dX1_nextCourt_1 : decode cX1_nextCourt 1 = .ok (.iload_n 1, 1) := by decide +kernel
theorem dX1_nextCourt_2 : decode cX1_nextCourt 2 = .ok (.invokestatic 59, 3) := by decide +kernel
theorem dX1_nextCourt_5 : decode cX1_nextCourt 5 = .ok (.ifCond .eq 7, 3) := by decide +kernel
theorem dX1_nextCourt_8 : decode cX1_nextCourt 8 = .ok (.iconst 0, 1) := by decide +kernel
theorem dX1_nextCourt_9 : decode cX1_nextCourt 9 = .ok (.goto 4, 3) := by decide +kernel
theorem dX1_nextCourt_12 : decode cX1_nextCourt 12 = .ok (.iconst 1, 1) := by decide +kernel
theorem dX1_nextCourt_13 : decode cX1_nextCourt 13 = .ok (.invokevirtual 62, 3) := by decide +kernel
theorem dX1_nextCourt_16 : decode cX1_nextCourt 16 = .ok (.ifCond .ne 5, 3) := by decide +kernel
theorem dX1_nextCourt_19 : decode cX1_nextCourt 19 = .ok (.iconst 0, 1) := by decide +kernel
theorem dX1_nextCourt_20 : decode cX1_nextCourt 20 = .ok (.ireturn, 1) := by decide +kernel
theorem dX1_nextCourt_21 : decode cX1_nextCourt 21 = .ok (.iload_n 1, 1) := by decide +kernel
theorem dX1_nextCourt_22 : decode cX1_nextCourt 22 = .ok (.istore_n 2, 1) := by decide +kernel
theorem dX1_nextCourt_23 : decode cX1_nextCourt 23 = .ok (.iload_n 2, 1) := by decide +kernel
theorem dX1_nextCourt_24 : decode cX1_nextCourt 24 = .ok (.ldc 65, 2) := by decide +kernel
theorem dX1_nextCourt_26 : decode cX1_nextCourt 26 = .ok (.if_icmp .ge 40, 3) := by decide +kernel
theorem dX1_nextCourt_29 : decode cX1_nextCourt 29 = .ok (.iload_n 2, 1) := by decide +kernel
theorem dX1_nextCourt_30 : decode cX1_nextCourt 30 = .ok (.iload_n 1, 1) := by decide +kernel
theorem dX1_nextCourt_31 : decode cX1_nextCourt 31 = .ok (.sipush 367, 3) := by decide +kernel
theorem dX1_nextCourt_34 : decode cX1_nextCourt 34 = .ok (.iadd, 1) := by decide +kernel
theorem dX1_nextCourt_35 : decode cX1_nextCourt 35 = .ok (.if_icmp .ge 31, 3) := by decide +kernel
theorem dX1_nextCourt_38 : decode cX1_nextCourt 38 = .ok (.aload_n 0, 1) := by decide +kernel
theorem dX1_nextCourt_39 : decode cX1_nextCourt 39 = .ok (.getfield 7, 3) := by decide +kernel
theorem dX1_nextCourt_42 : decode cX1_nextCourt 42 = .ok (.aload_n 0, 1) := by decide +kernel
theorem dX1_nextCourt_43 : decode cX1_nextCourt 43 = .ok (.iload_n 2, 1) := by decide +kernel
theorem dX1_nextCourt_44 : decode cX1_nextCourt 44 = .ok (.invokevirtual 101, 3) := by decide +kernel
theorem dX1_nextCourt_47 : decode cX1_nextCourt 47 = .ok (.iaload, 1) := by decide +kernel
theorem dX1_nextCourt_48 : decode cX1_nextCourt 48 = .ok (.istore_n 3, 1) := by decide +kernel
theorem dX1_nextCourt_49 : decode cX1_nextCourt 49 = .ok (.iload_n 3, 1) := by decide +kernel
theorem dX1_nextCourt_50 : decode cX1_nextCourt 50 = .ok (.ifCond .eq 8, 3) := by decide +kernel
theorem dX1_nextCourt_53 : decode cX1_nextCourt 53 = .ok (.iload_n 3, 1) := by decide +kernel
theorem dX1_nextCourt_54 : decode cX1_nextCourt 54 = .ok (.iconst 2, 1) := by decide +kernel
theorem dX1_nextCourt_55 : decode cX1_nextCourt 55 = .ok (.if_icmp .ne 5, 3) := by decide +kernel
theorem dX1_nextCourt_58 : decode cX1_nextCourt 58 = .ok (.iload_n 2, 1) := by decide +kernel
theorem dX1_nextCourt_59 : decode cX1_nextCourt 59 = .ok (.ireturn, 1) := by decide +kernel
theorem dX1_nextCourt_60 : decode cX1_nextCourt 60 = .ok (.iinc 2 1, 3) := by decide +kernel
theorem dX1_nextCourt_63 : decode cX1_nextCourt 63 = .ok (.goto (-40), 3) := by decide +kernel
theorem dX1_nextCourt_66 : decode cX1_nextCourt 66 = .ok (.iconst (-1), 1) := by decide +kernel
theorem dX1_nextCourt_67 : decode cX1_nextCourt 67 = .ok (.ireturn, 1) := by decide +kernel
set_option maxRecDepth 20000 in
theorem ggX1_votes_X1_isYear : GoodIn wsX1_votes wsX1_isYear := goodIn_r _ [4, 5, 6, 3, 7] (by decide +kernel) (by decide +kernel)
set_option maxRecDepth 20000 in
theorem gX1_votes_X1_isYear : GoodIn wsX1_votes (va_wsS RX1 66 yX1_isYear wsX1_isYear) := goodIn_app (goodIn_of _ (by decide +kernel)) ggX1_votes_X1_isYear
set_option maxRecDepth 20000 in
theorem ggX1_votes_X1_isFine : GoodIn wsX1_votes wsX1_isFine := goodIn_r _ [11, 12, 39, 40, 41, 42, 43, 44, 45, 46, 47] (by decide +kernel) (by decide +kernel)
set_option maxRecDepth 20000 in
theorem gX1_votes_X1_isFine : GoodIn wsX1_votes (wsV RX1 62 RX1 yX1_isFine wsX1_isFine) := goodIn_app (goodIn_of _ (by decide +kernel)) ggX1_votes_X1_isFine
set_option maxRecDepth 20000 in
theorem ggX1_votes_X1_begin : GoodIn wsX1_votes wsX1_begin := goodIn_r _ [15] (by decide +kernel) (by decide +kernel)
set_option maxRecDepth 20000 in
theorem gX1_votes_X1_begin : GoodIn wsX1_votes (va_wsS RX1 49 yX1_begin wsX1_begin) := goodIn_app (goodIn_of _ (by decide +kernel)) ggX1_votes_X1_begin
set_option maxRecDepth 20000 in
theorem ggX1_votes_X1_isVoting : GoodIn wsX1_votes wsX1_isVoting := goodIn_r _ [19, 20, 21, 22, 23, 24, 3, 25, 26, 27, 28, 29, 30, 31, 32, 13, 14, 15, 33, 34, 35, 36, 37, 38, 39, 40, 41, 42, 43, 44, 45, 46, 47] (by decide +kernel) (by decide +kernel)
set_option maxRecDepth 20000 in
theorem gX1_votes_X1_isVoting : GoodIn wsX1_votes (wsV RX1 113 RX1 yX1_isVoting wsX1_isVoting) := goodIn_app (goodIn_of _ (by decide +kernel)) ggX1_votes_X1_isVoting
theorem dX1_votes_0 : decode cX1_votes 0 = .ok (.aload_n 0, 1) := by decide +kernel
theorem dX1_votes_1 : decode cX1_votes 1 = .ok (.iload_n 1, 1) := by decide +kernel
theorem dX1_votes_2 : decode cX1_votes 2 = .ok (.invokestatic 66, 3) := by decide +kernel
theorem dX1_votes_5 : decode cX1_votes 5 = .ok (.ifCond .eq 7, 3) := by decide +kernel
theorem dX1_votes_8 : decode cX1_votes 8 = .ok (.iconst 0, 1) := by decide +kernel
theorem dX1_votes_9 : decode cX1_votes 9 = .ok (.goto 4, 3) := by decide +kernel
theorem dX1_votes_12 : decode cX1_votes 12 = .ok (.iconst 1, 1) := by decide +kernel
theorem dX1_votes_13 : decode cX1_votes 13 = .ok (.invokevirtual 62, 3) := by decide +kernel
theorem dX1_votes_16 : decode cX1_votes 16 = .ok (.ifCond .ne 5, 3) := by decide +kernel
theorem dX1_votes_19 : decode cX1_votes 19 = .ok (.iconst 0, 1) := by decide +kernel
theorem dX1_votes_20 : decode cX1_votes 20 = .ok (.ireturn, 1) := by decide +kernel
theorem dX1_votes_21 : decode cX1_votes 21 = .ok (.iconst 0, 1) := by decide +kernel
theorem dX1_votes_22 : decode cX1_votes 22 = .ok (.istore_n 2, 1) := by decide +kernel
theorem dX1_votes_23 : decode cX1_votes 23 = .ok (.iload_n 1, 1) := by decide +kernel
theorem dX1_votes_24 : decode cX1_votes 24 = .ok (.invokestatic 49, 3) := by decide +kernel
theorem dX1_votes_27 : decode cX1_votes 27 = .ok (.istore_n 3, 1) := by decide +kernel
theorem dX1_votes_28 : decode cX1_votes 28 = .ok (.iload_n 3, 1) := by decide +kernel
theorem dX1_votes_29 : decode cX1_votes 29 = .ok (.iload_n 1, 1) := by decide +kernel
theorem dX1_votes_30 : decode cX1_votes 30 = .ok (.iconst 1, 1) := by decide +kernel
theorem dX1_votes_31 : decode cX1_votes 31 = .ok (.iadd, 1) := by decide +kernel
theorem dX1_votes_32 : decode cX1_votes 32 = .ok (.invokestatic 49, 3) := by decide +kernel
theorem dX1_votes_35 : decode cX1_votes 35 = .ok (.if_icmp .ge 25, 3) := by decide +kernel
theorem dX1_votes_38 : decode cX1_votes 38 = .ok (.iload_n 2, 1) := by decide +kernel
theorem dX1_votes_39 : decode cX1_votes 39 = .ok (.aload_n 0, 1) := by decide +kernel
theorem dX1_votes_40 : decode cX1_votes 40 = .ok (.iload_n 3, 1) := by decide +kernel
theorem dX1_votes_41 : decode cX1_votes 41 = .ok (.invokevirtual 113, 3) := by decide +kernel
theorem dX1_votes_44 : decode cX1_votes 44 = .ok (.ifCond .eq 7, 3) := by decide +kernel
theorem dX1_votes_47 : decode cX1_votes 47 = .ok (.iconst 1, 1) := by decide +kernel
theorem dX1_votes_48 : decode cX1_votes 48 = .ok (.goto 4, 3) := by decide +kernel
theorem dX1_votes_51 : decode cX1_votes 51 = .ok (.iconst 0, 1) := by decide +kernel
theorem dX1_votes_52 : decode cX1_votes 52 = .ok (.iadd, 1) := by decide +kernel
theorem dX1_votes_53 : decode cX1_votes 53 = .ok (.istore_n 2, 1) := by decide +kernel
theorem dX1_votes_54 : decode cX1_votes 54 = .ok (.iinc 3 1, 3) := by decide +kernel
theorem dX1_votes_57 : decode cX1_votes 57 = .ok (.goto (-29), 3) := by decide +kernel
theorem dX1_votes_60 : decode cX1_votes 60 = .ok (.iload_n 2, 1) := by decide +kernel
theorem dX1_votes_61 : decode cX1_votes 61 = .ok (.ireturn, 1) := by decide +kernel
