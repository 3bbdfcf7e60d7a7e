theorem dX0_init_0 : decode cX0_init 0 = .ok (.aload_n 0, 1) := by decide +kernel
theorem dX0_init_1 : decode cX0_init 1 = .ok (.invokespecial 3, 3) := by decide +kernel
theorem dX0_init_4 : decode cX0_init 4 = .ok (.aload_n 0, 1) := by decide +kernel
theorem dX0_init_5 : decode cX0_init 5 = .ok (.iconst (-1), 1) := by decide +kernel
theorem dX0_init_6 : decode cX0_init 6 = .ok (.putfield 9, 3) := by decide +kernel
theorem dX0_init_9 : decode cX0_init 9 = .ok (.aload_n 0, 1) := by decide +kernel
theorem dX0_init_10 : decode cX0_init 10 = .ok (.iload_n 1, 1) := by decide +kernel
theorem dX0_init_11 : decode cX0_init 11 = .ok (.putfield 15, 3) := by decide +kernel
theorem dX0_init_14 : decode cX0_init 14 = .ok (.aload_n 0, 1) := by decide +kernel
theorem dX0_init_15 : decode cX0_init 15 = .ok (.iload_n 2, 1) := by decide +kernel
theorem dX0_init_16 : decode cX0_init 16 = .ok (.putfield 18, 3) := by decide +kernel
theorem dX0_init_19 : decode cX0_init 19 = .ok (.aload_n 0, 1) := by decide +kernel
theorem dX0_init_20 : decode cX0_init 20 = .ok (.iload_n 3, 1) := by decide +kernel
theorem dX0_init_21 : decode cX0_init 21 = .ok (.putfield 21, 3) := by decide +kernel
theorem dX0_init_24 : decode cX0_init 24 = .ok (.aload_n 0, 1) := by decide +kernel
theorem dX0_init_25 : decode cX0_init 25 = .ok (.iload 4, 2) := by decide +kernel
theorem dX0_init_27 : decode cX0_init 27 = .ok (.putfield 24, 3) := by decide +kernel
theorem dX0_init_30 : decode cX0_init 30 = .ok (.aload_n 0, 1) := by decide +kernel
theorem dX0_init_31 : decode cX0_init 31 = .ok (.iload 5, 2) := by decide +kernel
theorem dX0_init_33 : decode cX0_init 33 = .ok (.putfield 27, 3) := by decide +kernel
theorem dX0_init_36 : decode cX0_init 36 = .ok (.aload_n 0, 1) := by decide +kernel
theorem dX0_init_37 : decode cX0_init 37 = .ok (.iload 6, 2) := by decide +kernel
theorem dX0_init_39 : decode cX0_init 39 = .ok (.putfield 30, 3) := by decide +kernel
theorem dX0_init_42 : decode cX0_init 42 = .ok (.aload_n 0, 1) := by decide +kernel
theorem dX0_init_43 : decode cX0_init 43 = .ok (.iload 7, 2) := by decide +kernel
theorem dX0_init_45 : decode cX0_init 45 = .ok (.putfield 33, 3) := by decide +kernel
theorem dX0_init_48 : decode cX0_init 48 = .ok (.return_, 1) := by decide +kernel
theorem dX0_waited_0 : decode cX0_waited 0 = .ok (.aload_n 0, 1) := by decide +kernel
theorem dX0_waited_1 : decode cX0_waited 1 = .ok (.getfield 9, 3) := by decide +kernel
theorem dX0_waited_4 : decode cX0_waited 4 = .ok (.iconst (-1), 1) := by decide +kernel
theorem dX0_waited_5 : decode cX0_waited 5 = .ok (.if_icmp .ne 7, 3) := by decide +kernel
theorem dX0_waited_8 : decode cX0_waited 8 = .ok (.iconst (-1), 1) := by decide +kernel
theorem dX0_waited_9 : decode cX0_waited 9 = .ok (.goto 12, 3) := by decide +kernel
theorem dX0_waited_12 : decode cX0_waited 12 = .ok (.aload_n 0, 1) := by decide +kernel
theorem dX0_waited_13 : decode cX0_waited 13 = .ok (.getfield 9, 3) := by decide +kernel
theorem dX0_waited_16 : decode cX0_waited 16 = .ok (.aload_n 0, 1) := by decide +kernel
theorem dX0_waited_17 : decode cX0_waited 17 = .ok (.getfield 21, 3) := by decide +kernel
theorem dX0_waited_20 : decode cX0_waited 20 = .ok (.isub, 1) := by decide +kernel
theorem dX0_waited_21 : decode cX0_waited 21 = .ok (.ireturn, 1) := by decide +kernel
theorem dX0_goesAheadOf_0 : decode cX0_goesAheadOf 0 = .ok (.aload_n 0, 1) := by decide +kernel
theorem dX0_goesAheadOf_1 : decode cX0_goesAheadOf 1 = .ok (.getfield 33, 3) := by decide +kernel
theorem dX0_goesAheadOf_4 : decode cX0_goesAheadOf 4 = .ok (.aload_n 1, 1) := by decide +kernel
theorem dX0_goesAheadOf_5 : decode cX0_goesAheadOf 5 = .ok (.getfield 33, 3) := by decide +kernel
theorem dX0_goesAheadOf_8 : decode cX0_goesAheadOf 8 = .ok (.if_icmp .lt 25, 3) := by decide +kernel
theorem dX0_goesAheadOf_11 : decode cX0_goesAheadOf 11 = .ok (.aload_n 0, 1) := by decide +kernel
theorem dX0_goesAheadOf_12 : decode cX0_goesAheadOf 12 = .ok (.getfield 33, 3) := by decide +kernel
theorem dX0_goesAheadOf_15 : decode cX0_goesAheadOf 15 = .ok (.aload_n 1, 1) := by decide +kernel
theorem dX0_goesAheadOf_16 : decode cX0_goesAheadOf 16 = .ok (.getfield 33, 3) := by decide +kernel
theorem dX0_goesAheadOf_19 : decode cX0_goesAheadOf 19 = .ok (.if_icmp .ne 18, 3) := by decide +kernel
theorem dX0_goesAheadOf_22 : decode cX0_goesAheadOf 22 = .ok (.aload_n 0, 1) := by decide +kernel
theorem dX0_goesAheadOf_23 : decode cX0_goesAheadOf 23 = .ok (.getfield 21, 3) := by decide +kernel
theorem dX0_goesAheadOf_26 : decode cX0_goesAheadOf 26 = .ok (.aload_n 1, 1) := by decide +kernel
theorem dX0_goesAheadOf_27 : decode cX0_goesAheadOf 27 = .ok (.getfield 21, 3) := by decide +kernel
theorem dX0_goesAheadOf_30 : decode cX0_goesAheadOf 30 = .ok (.if_icmp .ge 7, 3) := by decide +kernel
theorem dX0_goesAheadOf_33 : decode cX0_goesAheadOf 33 = .ok (.iconst 1, 1) := by decide +kernel
theorem dX0_goesAheadOf_34 : decode cX0_goesAheadOf 34 = .ok (.goto 4, 3) := by decide +kernel
theorem dX0_goesAheadOf_37 : decode cX0_goesAheadOf 37 = .ok (.iconst 0, 1) := by decide +kernel
theorem dX0_goesAheadOf_38 : decode cX0_goesAheadOf 38 = .ok (.ireturn, 1) := by decide +kernel
theorem dX1_init_0 : decode cX1_init 0 = .ok (.aload_n 0, 1) := by decide +kernel
theorem dX1_init_1 : decode cX1_init 1 = .ok (.invokespecial 3, 3) := by decide +kernel
theorem dX1_init_4 : decode cX1_init 4 = .ok (.aload_n 0, 1) := by decide +kernel
theorem dX1_init_5 : decode cX1_init 5 = .ok (.getstatic 9, 3) := by decide +kernel
theorem dX1_init_8 : decode cX1_init 8 = .ok (.invokevirtual 15, 3) := by decide +kernel
theorem dX1_init_11 : decode cX1_init 11 = .ok (.checkcast 16, 3) := by decide +kernel
theorem dX1_init_14 : decode cX1_init 14 = .ok (.putfield 20, 3) := by decide +kernel
theorem dX1_init_17 : decode cX1_init 17 = .ok (.aload_n 0, 1) := by decide +kernel
theorem dX1_init_18 : decode cX1_init 18 = .ok (.getstatic 9, 3) := by decide +kernel
theorem dX1_init_21 : decode cX1_init 21 = .ok (.invokevirtual 15, 3) := by decide +kernel
theorem dX1_init_24 : decode cX1_init 24 = .ok (.checkcast 16, 3) := by decide +kernel
theorem dX1_init_27 : decode cX1_init 27 = .ok (.putfield 23, 3) := by decide +kernel
theorem dX1_init_30 : decode cX1_init 30 = .ok (.aload_n 0, 1) := by decide +kernel
theorem dX1_init_31 : decode cX1_init 31 = .ok (.aload_n 1, 1) := by decide +kernel
theorem dX1_init_32 : decode cX1_init 32 = .ok (.putfield 26, 3) := by decide +kernel
theorem dX1_init_35 : decode cX1_init 35 = .ok (.return_, 1) := by decide +kernel
theorem dX1_number_0 : decode cX1_number 0 = .ok (.iload_n 1, 1) := by decide +kernel
theorem dX1_number_1 : decode cX1_number 1 = .ok (.ifCond .lt 18, 3) := by decide +kernel
theorem dX1_number_4 : decode cX1_number 4 = .ok (.iload_n 1, 1) := by decide +kernel
theorem dX1_number_5 : decode cX1_number 5 = .ok (.bipush 6, 2) := by decide +kernel
theorem dX1_number_7 : decode cX1_number 7 = .ok (.if_icmp .ge 12, 3) := by decide +kernel
theorem dX1_number_10 : decode cX1_number 10 = .ok (.aload_n 0, 1) := by decide +kernel
theorem dX1_number_11 : decode cX1_number 11 = .ok (.getfield 20, 3) := by decide +kernel
theorem dX1_number_14 : decode cX1_number 14 = .ok (.iload_n 1, 1) := by decide +kernel
theorem dX1_number_15 : decode cX1_number 15 = .ok (.iaload, 1) := by decide +kernel
theorem dX1_number_16 : decode cX1_number 16 = .ok (.goto 4, 3) := by decide +kernel
theorem dX1_number_19 : decode cX1_number 19 = .ok (.iconst (-1), 1) := by decide +kernel
theorem dX1_number_20 : decode cX1_number 20 = .ok (.ireturn, 1) := by decide +kernel
set_option maxRecDepth 20000 in
theorem ggX1_enact_X1_faultOfText : GoodIn wsX1_enact wsX1_faultOfText := goodIn_r _ [14, 1, 2, 15, 16, 17, 13, 18, 19, 20, 4, 21, 22, 23, 24, 25, 26, 27, 28, 29, 30, 31, 32, 33, 34, 35, 36, 37, 38, 39, 40, 41, 42, 43, 44, 45, 46, 47, 48, 49] (by decide +kernel) (by decide +kernel)
set_option maxRecDepth 20000 in
theorem gX1_enact_X1_faultOfText : GoodIn wsX1_enact (wsV RX1 43 RX1 yX1_faultOfText wsX1_faultOfText) := goodIn_app (goodIn_of _ (by decide +kernel)) ggX1_enact_X1_faultOfText
theorem dX1_enact_0 : decode cX1_enact 0 = .ok (.aload_n 0, 1) := by decide +kernel
theorem dX1_enact_1 : decode cX1_enact 1 = .ok (.iload_n 1, 1) := by decide +kernel
theorem dX1_enact_2 : decode cX1_enact 2 = .ok (.putfield 30, 3) := by decide +kernel
theorem dX1_enact_5 : decode cX1_enact 5 = .ok (.aload_n 0, 1) := by decide +kernel
theorem dX1_enact_6 : decode cX1_enact 6 = .ok (.iconst 0, 1) := by decide +kernel
theorem dX1_enact_7 : decode cX1_enact 7 = .ok (.putfield 34, 3) := by decide +kernel
theorem dX1_enact_10 : decode cX1_enact 10 = .ok (.getstatic 9, 3) := by decide +kernel
theorem dX1_enact_13 : decode cX1_enact 13 = .ok (.iconst 0, 1) := by decide +kernel
theorem dX1_enact_14 : decode cX1_enact 14 = .ok (.aload_n 0, 1) := by decide +kernel
theorem dX1_enact_15 : decode cX1_enact 15 = .ok (.getfield 23, 3) := by decide +kernel
theorem dX1_enact_18 : decode cX1_enact 18 = .ok (.iconst 0, 1) := by decide +kernel
theorem dX1_enact_19 : decode cX1_enact 19 = .ok (.bipush 6, 2) := by decide +kernel
theorem dX1_enact_21 : decode cX1_enact 21 = .ok (.invokestatic 37, 3) := by decide +kernel
theorem dX1_enact_24 : decode cX1_enact 24 = .ok (.aload_n 0, 1) := by decide +kernel
theorem dX1_enact_25 : decode cX1_enact 25 = .ok (.invokevirtual 43, 3) := by decide +kernel
theorem dX1_enact_28 : decode cX1_enact 28 = .ok (.istore_n 2, 1) := by decide +kernel
theorem dX1_enact_29 : decode cX1_enact 29 = .ok (.iload_n 2, 1) := by decide +kernel
theorem dX1_enact_30 : decode cX1_enact 30 = .ok (.ifCond .ne 18, 3) := by decide +kernel
theorem dX1_enact_33 : decode cX1_enact 33 = .ok (.aload_n 0, 1) := by decide +kernel
theorem dX1_enact_34 : decode cX1_enact 34 = .ok (.getfield 23, 3) := by decide +kernel
theorem dX1_enact_37 : decode cX1_enact 37 = .ok (.iconst 0, 1) := by decide +kernel
theorem dX1_enact_38 : decode cX1_enact 38 = .ok (.aload_n 0, 1) := by decide +kernel
theorem dX1_enact_39 : decode cX1_enact 39 = .ok (.getfield 20, 3) := by decide +kernel
theorem dX1_enact_42 : decode cX1_enact 42 = .ok (.iconst 0, 1) := by decide +kernel
theorem dX1_enact_43 : decode cX1_enact 43 = .ok (.bipush 6, 2) := by decide +kernel
theorem dX1_enact_45 : decode cX1_enact 45 = .ok (.invokestatic 37, 3) := by decide +kernel
theorem dX1_enact_48 : decode cX1_enact 48 = .ok (.iload_n 2, 1) := by decide +kernel
theorem dX1_enact_49 : decode cX1_enact 49 = .ok (.ireturn, 1) := by decide +kernel
set_option maxRecDepth 20000 in
theorem ggX1_faultOfText_X1_faultOfClause : GoodIn wsX1_faultOfText wsX1_faultOfClause := goodIn_r _ [7, 2, 1, 8, 9, 10, 11, 12, 13, 6, 14, 15, 16, 17, 18, 19, 20, 21, 22, 23, 24, 25, 26, 27, 28, 29, 30, 31, 32, 33, 34, 35, 36, 37, 38, 39] (by decide +kernel) (by decide +kernel)
set_option maxRecDepth 20000 in
theorem gX1_faultOfText_X1_faultOfClause : GoodIn wsX1_faultOfText (wsV RX1 47 RX1 yX1_faultOfClause wsX1_faultOfClause) := goodIn_app (goodIn_of _ (by decide +kernel)) ggX1_faultOfText_X1_faultOfClause
set_option maxRecDepth 20000 in
theorem ggX1_faultOfText_X1_sign : GoodIn wsX1_faultOfText wsX1_sign := goodIn_r _ [14, 2, 1, 15, 16, 17, 18, 19, 20, 21, 22, 33, 34, 35, 36, 37, 38, 39] (by decide +kernel) (by decide +kernel)
set_option maxRecDepth 20000 in
theorem gX1_faultOfText_X1_sign : GoodIn wsX1_faultOfText (wsV RX1 50 RX1 yX1_sign wsX1_sign) := goodIn_app (goodIn_of _ (by decide +kernel)) ggX1_faultOfText_X1_sign
set_option maxRecDepth 20000 in
theorem ggX1_faultOfText_X1_fault : GoodIn wsX1_faultOfText wsX1_fault := goodIn_r _ [29] (by decide +kernel) (by decide +kernel)
set_option maxRecDepth 20000 in
theorem gX1_faultOfText_X1_fault : GoodIn wsX1_faultOfText (va_wsS RX1 53 yX1_fault wsX1_fault) := goodIn_app (goodIn_of _ (by decide +kernel)) ggX1_faultOfText_X1_fault
theorem dX1_faultOfText_0 : decode cX1_faultOfText 0 = .ok (.iconst 0, 1) := by decide +kernel
theorem dX1_faultOfText_1 : decode cX1_faultOfText 1 = .ok (.istore_n 1, 1) := by decide +kernel
theorem dX1_faultOfText_2 : decode cX1_faultOfText 2 = .ok (.iload_n 1, 1) := by decide +kernel
theorem dX1_faultOfText_3 : decode cX1_faultOfText 3 = .ok (.aload_n 0, 1) := by decide +kernel
theorem dX1_faultOfText_4 : decode cX1_faultOfText 4 = .ok (.getfield 30, 3) := by decide +kernel
theorem dX1_faultOfText_7 : decode cX1_faultOfText 7 = .ok (.if_icmp .gt 59, 3) := by decide +kernel
theorem dX1_faultOfText_10 : decode cX1_faultOfText 10 = .ok (.aload_n 0, 1) := by decide +kernel
theorem dX1_faultOfText_11 : decode cX1_faultOfText 11 = .ok (.invokevirtual 47, 3) := by decide +kernel
theorem dX1_faultOfText_14 : decode cX1_faultOfText 14 = .ok (.istore_n 2, 1) := by decide +kernel
theorem dX1_faultOfText_15 : decode cX1_faultOfText 15 = .ok (.iload_n 2, 1) := by decide +kernel
theorem dX1_faultOfText_16 : decode cX1_faultOfText 16 = .ok (.ifCond .ne 14, 3) := by decide +kernel
theorem dX1_faultOfText_19 : decode cX1_faultOfText 19 = .ok (.aload_n 0, 1) := by decide +kernel
theorem dX1_faultOfText_20 : decode cX1_faultOfText 20 = .ok (.getfield 34, 3) := by decide +kernel
theorem dX1_faultOfText_23 : decode cX1_faultOfText 23 = .ok (.aload_n 0, 1) := by decide +kernel
theorem dX1_faultOfText_24 : decode cX1_faultOfText 24 = .ok (.getfield 30, 3) := by decide +kernel
theorem dX1_faultOfText_27 : decode cX1_faultOfText 27 = .ok (.if_icmp .lt 5, 3) := by decide +kernel
theorem dX1_faultOfText_30 : decode cX1_faultOfText 30 = .ok (.iload_n 2, 1) := by decide +kernel
theorem dX1_faultOfText_31 : decode cX1_faultOfText 31 = .ok (.ireturn, 1) := by decide +kernel
theorem dX1_faultOfText_32 : decode cX1_faultOfText 32 = .ok (.aload_n 0, 1) := by decide +kernel
theorem dX1_faultOfText_33 : decode cX1_faultOfText 33 = .ok (.invokevirtual 50, 3) := by decide +kernel
theorem dX1_faultOfText_36 : decode cX1_faultOfText 36 = .ok (.bipush 59, 2) := by decide +kernel
theorem dX1_faultOfText_38 : decode cX1_faultOfText 38 = .ok (.if_icmp .eq 12, 3) := by decide +kernel
theorem dX1_faultOfText_41 : decode cX1_faultOfText 41 = .ok (.iconst 5, 1) := by decide +kernel
theorem dX1_faultOfText_42 : decode cX1_faultOfText 42 = .ok (.aload_n 0, 1) := by decide +kernel
theorem dX1_faultOfText_43 : decode cX1_faultOfText 43 = .ok (.getfield 34, 3) := by decide +kernel
theorem dX1_faultOfText_46 : decode cX1_faultOfText 46 = .ok (.invokestatic 53, 3) := by decide +kernel
theorem dX1_faultOfText_49 : decode cX1_faultOfText 49 = .ok (.ireturn, 1) := by decide +kernel
theorem dX1_faultOfText_50 : decode cX1_faultOfText 50 = .ok (.aload_n 0, 1) := by decide +kernel
theorem dX1_faultOfText_51 : decode cX1_faultOfText 51 = .ok (.dup, 1) := by decide +kernel
theorem dX1_faultOfText_52 : decode cX1_faultOfText 52 = .ok (.getfield 34, 3) := by decide +kernel
theorem dX1_faultOfText_55 : decode cX1_faultOfText 55 = .ok (.iconst 1, 1) := by decide +kernel
theorem dX1_faultOfText_56 : decode cX1_faultOfText 56 = .ok (.iadd, 1) := by decide +kernel
theorem dX1_faultOfText_57 : decode cX1_faultOfText 57 = .ok (.putfield 34, 3) := by decide +kernel
theorem dX1_faultOfText_60 : decode cX1_faultOfText 60 = .ok (.iinc 1 1, 3) := by decide +kernel
theorem dX1_faultOfText_63 : decode cX1_faultOfText 63 = .ok (.goto (-61), 3) := by decide +kernel
theorem dX1_faultOfText_66 : decode cX1_faultOfText 66 = .ok (.iconst 0, 1) := by decide +kernel
theorem dX1_faultOfText_67 : decode cX1_faultOfText 67 = .ok (.ireturn, 1) := by decide +kernel
set_option maxRecDepth 20000 in
theorem ggX1_faultOfClause_X1_sign : GoodIn wsX1_faultOfClause wsX1_sign := goodIn_r _ [10, 1, 2, 11, 12, 13, 14, 15, 16, 17, 18, 29, 30, 31, 32, 33, 34, 35] (by decide +kernel) (by decide +kernel)
set_option maxRecDepth 20000 in
theorem gX1_faultOfClause_X1_sign : GoodIn wsX1_faultOfClause (wsV RX1 50 RX1 yX1_sign wsX1_sign) := goodIn_app (goodIn_of _ (by decide +kernel)) ggX1_faultOfClause_X1_sign
set_option maxRecDepth 20000 in
theorem ggX1_faultOfClause_X1_letterOf : GoodIn wsX1_faultOfClause wsX1_letterOf := goodIn_r _ [21, 22] (by decide +kernel) (by decide +kernel)
set_option maxRecDepth 20000 in
theorem gX1_faultOfClause_X1_letterOf : GoodIn wsX1_faultOfClause (va_wsS RX1 57 yX1_letterOf wsX1_letterOf) := goodIn_app (goodIn_of _ (by decide +kernel)) ggX1_faultOfClause_X1_letterOf
set_option maxRecDepth 20000 in
theorem ggX1_faultOfClause_X1_fault : GoodIn wsX1_faultOfClause wsX1_fault := goodIn_r _ [25] (by decide +kernel) (by decide +kernel)
set_option maxRecDepth 20000 in
theorem gX1_faultOfClause_X1_fault : GoodIn wsX1_faultOfClause (va_wsS RX1 53 yX1_fault wsX1_fault) := goodIn_app (goodIn_of _ (by decide +kernel)) ggX1_faultOfClause_X1_fault
set_option maxRecDepth 20000 in
theorem ggX1_faultOfClause_X1_isDigit : GoodIn wsX1_faultOfClause wsX1_isDigit := goodIn_r _ [28] (by decide +kernel) (by decide +kernel)
set_option maxRecDepth 20000 in
theorem gX1_faultOfClause_X1_isDigit : GoodIn wsX1_faultOfClause (va_wsS RX1 61 yX1_isDigit wsX1_isDigit) := goodIn_app (goodIn_of _ (by decide +kernel)) ggX1_faultOfClause_X1_isDigit
theorem dX1_faultOfClause_0 : decode cX1_faultOfClause 0 = .ok (.aload_n 0, 1) := by decide +kernel
theorem dX1_faultOfClause_1 : decode cX1_faultOfClause 1 = .ok (.invokevirtual 50, 3) := by decide +kernel
theorem dX1_faultOfClause_4 : decode cX1_faultOfClause 4 = .ok (.invokestatic 57, 3) := by decide +kernel
theorem dX1_faultOfClause_7 : decode cX1_faultOfClause 7 = .ok (.istore_n 1, 1) := by decide +kernel
theorem dX1_faultOfClause_8 : decode cX1_faultOfClause 8 = .ok (.iload_n 1, 1) := by decide +kernel
theorem dX1_faultOfClause_9 : decode cX1_faultOfClause 9 = .ok (.ifCond .ge 12, 3) := by decide +kernel
theorem dX1_faultOfClause_12 : decode cX1_faultOfClause 12 = .ok (.iconst 1, 1) := by decide +kernel
theorem dX1_faultOfClause_13 : decode cX1_faultOfClause 13 = .ok (.aload_n 0, 1) := by decide +kernel
theorem dX1_faultOfClause_14 : decode cX1_faultOfClause 14 = .ok (.getfield 34, 3) := by decide +kernel
theorem dX1_faultOfClause_17 : decode cX1_faultOfClause 17 = .ok (.invokestatic 53, 3) := by decide +kernel
theorem dX1_faultOfClause_20 : decode cX1_faultOfClause 20 = .ok (.ireturn, 1) := by decide +kernel
theorem dX1_faultOfClause_21 : decode cX1_faultOfClause 21 = .ok (.aload_n 0, 1) := by decide +kernel
theorem dX1_faultOfClause_22 : decode cX1_faultOfClause 22 = .ok (.dup, 1) := by decide +kernel
theorem dX1_faultOfClause_23 : decode cX1_faultOfClause 23 = .ok (.getfield 34, 3) := by decide +kernel
theorem dX1_faultOfClause_26 : decode cX1_faultOfClause 26 = .ok (.iconst 1, 1) := by decide +kernel
theorem dX1_faultOfClause_27 : decode cX1_faultOfClause 27 = .ok (.iadd, 1) := by decide +kernel
theorem dX1_faultOfClause_28 : decode cX1_faultOfClause 28 = .ok (.putfield 34, 3) := by decide +kernel
theorem dX1_faultOfClause_31 : decode cX1_faultOfClause 31 = .ok (.aload_n 0, 1) := by decide +kernel
theorem dX1_faultOfClause_32 : decode cX1_faultOfClause 32 = .ok (.getfield 34, 3) := by decide +kernel
theorem dX1_faultOfClause_35 : decode cX1_faultOfClause 35 = .ok (.istore_n 2, 1) := by decide +kernel
theorem dX1_faultOfClause_36 : decode cX1_faultOfClause 36 = .ok (.iconst 0, 1) := by decide +kernel
theorem dX1_faultOfClause_37 : decode cX1_faultOfClause 37 = .ok (.istore_n 3, 1) := by decide +kernel
theorem dX1_faultOfClause_38 : decode cX1_faultOfClause 38 = .ok (.aload_n 0, 1) := by decide +kernel
theorem dX1_faultOfClause_39 : decode cX1_faultOfClause 39 = .ok (.getfield 34, 3) := by decide +kernel
theorem dX1_faultOfClause_42 : decode cX1_faultOfClause 42 = .ok (.aload_n 0, 1) := by decide +kernel
theorem dX1_faultOfClause_43 : decode cX1_faultOfClause 43 = .ok (.getfield 30, 3) := by decide +kernel
theorem dX1_faultOfClause_46 : decode cX1_faultOfClause 46 = .ok (.if_icmp .ge 58, 3) := by decide +kernel
theorem dX1_faultOfClause_49 : decode cX1_faultOfClause 49 = .ok (.aload_n 0, 1) := by decide +kernel
theorem dX1_faultOfClause_50 : decode cX1_faultOfClause 50 = .ok (.invokevirtual 50, 3) := by decide +kernel
theorem dX1_faultOfClause_53 : decode cX1_faultOfClause 53 = .ok (.invokestatic 61, 3) := by decide +kernel
theorem dX1_faultOfClause_56 : decode cX1_faultOfClause 56 = .ok (.ifCond .eq 48, 3) := by decide +kernel
theorem dX1_faultOfClause_59 : decode cX1_faultOfClause 59 = .ok (.aload_n 0, 1) := by decide +kernel
theorem dX1_faultOfClause_60 : decode cX1_faultOfClause 60 = .ok (.getfield 34, 3) := by decide +kernel
theorem dX1_faultOfClause_63 : decode cX1_faultOfClause 63 = .ok (.iload_n 2, 1) := by decide +kernel
theorem dX1_faultOfClause_64 : decode cX1_faultOfClause 64 = .ok (.isub, 1) := by decide +kernel
theorem dX1_faultOfClause_65 : decode cX1_faultOfClause 65 = .ok (.iconst 4, 1) := by decide +kernel
theorem dX1_faultOfClause_66 : decode cX1_faultOfClause 66 = .ok (.if_icmp .ne 12, 3) := by decide +kernel
theorem dX1_faultOfClause_69 : decode cX1_faultOfClause 69 = .ok (.iconst 3, 1) := by decide +kernel
theorem dX1_faultOfClause_70 : decode cX1_faultOfClause 70 = .ok (.aload_n 0, 1) := by decide +kernel
theorem dX1_faultOfClause_71 : decode cX1_faultOfClause 71 = .ok (.getfield 34, 3) := by decide +kernel
theorem dX1_faultOfClause_74 : decode cX1_faultOfClause 74 = .ok (.invokestatic 53, 3) := by decide +kernel
theorem dX1_faultOfClause_77 : decode cX1_faultOfClause 77 = .ok (.ireturn, 1) := by decide +kernel
theorem dX1_faultOfClause_78 : decode cX1_faultOfClause 78 = .ok (.iload_n 3, 1) := by decide +kernel
theorem dX1_faultOfClause_79 : decode cX1_faultOfClause 79 = .ok (.bipush 10, 2) := by decide +kernel
theorem dX1_faultOfClause_81 : decode cX1_faultOfClause 81 = .ok (.imul, 1) := by decide +kernel
theorem dX1_faultOfClause_82 : decode cX1_faultOfClause 82 = .ok (.aload_n 0, 1) := by decide +kernel
theorem dX1_faultOfClause_83 : decode cX1_faultOfClause 83 = .ok (.invokevirtual 50, 3) := by decide +kernel
theorem dX1_faultOfClause_86 : decode cX1_faultOfClause 86 = .ok (.iadd, 1) := by decide +kernel
theorem dX1_faultOfClause_87 : decode cX1_faultOfClause 87 = .ok (.bipush 48, 2) := by decide +kernel
theorem dX1_faultOfClause_89 : decode cX1_faultOfClause 89 = .ok (.isub, 1) := by decide +kernel
theorem dX1_faultOfClause_90 : decode cX1_faultOfClause 90 = .ok (.istore_n 3, 1) := by decide +kernel
theorem dX1_faultOfClause_91 : decode cX1_faultOfClause 91 = .ok (.aload_n 0, 1) := by decide +kernel
theorem dX1_faultOfClause_92 : decode cX1_faultOfClause 92 = .ok (.dup, 1) := by decide +kernel
theorem dX1_faultOfClause_93 : decode cX1_faultOfClause 93 = .ok (.getfield 34, 3) := by decide +kernel
theorem dX1_faultOfClause_96 : decode cX1_faultOfClause 96 = .ok (.iconst 1, 1) := by decide +kernel
theorem dX1_faultOfClause_97 : decode cX1_faultOfClause 97 = .ok (.iadd, 1) := by decide +kernel
theorem dX1_faultOfClause_98 : decode cX1_faultOfClause 98 = .ok (.putfield 34, 3) := by decide +kernel
theorem dX1_faultOfClause_101 : decode cX1_faultOfClause 101 = .ok (.goto (-63), 3) := by decide +kernel
theorem dX1_faultOfClause_104 : decode cX1_faultOfClause 104 = .ok (.aload_n 0, 1) := by decide +kernel
theorem dX1_faultOfClause_105 : decode cX1_faultOfClause 105 = .ok (.getfield 34, 3) := by decide +kernel
theorem dX1_faultOfClause_108 : decode cX1_faultOfClause 108 = .ok (.iload_n 2, 1) := by decide +kernel
theorem dX1_faultOfClause_109 : decode cX1_faultOfClause 109 = .ok (.if_icmp .ne 9, 3) := by decide +kernel
theorem dX1_faultOfClause_112 : decode cX1_faultOfClause 112 = .ok (.iconst 2, 1) := by decide +kernel
theorem dX1_faultOfClause_113 : decode cX1_faultOfClause 113 = .ok (.iload_n 2, 1) := by decide +kernel
theorem dX1_faultOfClause_114 : decode cX1_faultOfClause 114 = .ok (.invokestatic 53, 3) := by decide +kernel
theorem dX1_faultOfClause_117 : decode cX1_faultOfClause 117 = .ok (.ireturn, 1) := by decide +kernel
theorem dX1_faultOfClause_118 : decode cX1_faultOfClause 118 = .ok (.iload_n 3, 1) := by decide +kernel
theorem dX1_faultOfClause_119 : decode cX1_faultOfClause 119 = .ok (.getstatic 65, 3) := by decide +kernel
theorem dX1_faultOfClause_122 : decode cX1_faultOfClause 122 = .ok (.iload_n 1, 1) := by decide +kernel
theorem dX1_faultOfClause_123 : decode cX1_faultOfClause 123 = .ok (.iaload, 1) := by decide +kernel
theorem dX1_faultOfClause_124 : decode cX1_faultOfClause 124 = .ok (.if_icmp .lt 12, 3) := by decide +kernel
theorem dX1_faultOfClause_127 : decode cX1_faultOfClause 127 = .ok (.iload_n 3, 1) := by decide +kernel
theorem dX1_faultOfClause_128 : decode cX1_faultOfClause 128 = .ok (.getstatic 68, 3) := by decide +kernel
theorem dX1_faultOfClause_131 : decode cX1_faultOfClause 131 = .ok (.iload_n 1, 1) := by decide +kernel
theorem dX1_faultOfClause_132 : decode cX1_faultOfClause 132 = .ok (.iaload, 1) := by decide +kernel
theorem dX1_faultOfClause_133 : decode cX1_faultOfClause 133 = .ok (.if_icmp .le 9, 3) := by decide +kernel
theorem dX1_faultOfClause_136 : decode cX1_faultOfClause 136 = .ok (.iconst 4, 1) := by decide +kernel
theorem dX1_faultOfClause_137 : decode cX1_faultOfClause 137 = .ok (.iload_n 2, 1) := by decide +kernel
theorem dX1_faultOfClause_138 : decode cX1_faultOfClause 138 = .ok (.invokestatic 53, 3) := by decide +kernel
theorem dX1_faultOfClause_141 : decode cX1_faultOfClause 141 = .ok (.ireturn, 1) := by decide +kernel
theorem dX1_faultOfClause_142 : decode cX1_faultOfClause 142 = .ok (.aload_n 0, 1) := by decide +kernel
theorem dX1_faultOfClause_143 : decode cX1_faultOfClause 143 = .ok (.getfield 23, 3) := by decide +kernel
theorem dX1_faultOfClause_146 : decode cX1_faultOfClause 146 = .ok (.iload_n 1, 1) := by decide +kernel
theorem dX1_faultOfClause_147 : decode cX1_faultOfClause 147 = .ok (.iload_n 3, 1) := by decide +kernel
theorem dX1_faultOfClause_148 : decode cX1_faultOfClause 148 = .ok (.iastore, 1) := by decide +kernel
theorem dX1_faultOfClause_149 : decode cX1_faultOfClause 149 = .ok (.iconst 0, 1) := by decide +kernel
theorem dX1_faultOfClause_150 : decode cX1_faultOfClause 150 = .ok (.ireturn, 1) := by decide +kernel
set_option maxRecDepth 20000 in
theorem ggX1_sign_X3_at : GoodIn wsX1_sign wsX3_at := goodIn_r _ [8, 9, 10, 16, 17] (by decide +kernel) (by decide +kernel)
set_option maxRecDepth 20000 in
theorem gX1_sign_X3_at : GoodIn wsX1_sign (wsV RX1 71 RX3 yX3_at wsX3_at) := goodIn_app (goodIn_of _ (by decide +kernel)) ggX1_sign_X3_at
theorem dX1_sign_0 : decode cX1_sign 0 = .ok (.aload_n 0, 1) := by decide +kernel
theorem dX1_sign_1 : decode cX1_sign 1 = .ok (.getfield 34, 3) := by decide +kernel
theorem dX1_sign_4 : decode cX1_sign 4 = .ok (.aload_n 0, 1) := by decide +kernel
theorem dX1_sign_5 : decode cX1_sign 5 = .ok (.getfield 30, 3) := by decide +kernel
theorem dX1_sign_8 : decode cX1_sign 8 = .ok (.if_icmp .ge 17, 3) := by decide +kernel
theorem dX1_sign_11 : decode cX1_sign 11 = .ok (.aload_n 0, 1) := by decide +kernel
theorem dX1_sign_12 : decode cX1_sign 12 = .ok (.getfield 26, 3) := by decide +kernel
theorem dX1_sign_15 : decode cX1_sign 15 = .ok (.aload_n 0, 1) := by decide +kernel
theorem dX1_sign_16 : decode cX1_sign 16 = .ok (.getfield 34, 3) := by decide +kernel
theorem dX1_sign_19 : decode cX1_sign 19 = .ok (.invokevirtual 71, 3) := by decide +kernel
theorem dX1_sign_22 : decode cX1_sign 22 = .ok (.goto 4, 3) := by decide +kernel
theorem dX1_sign_25 : decode cX1_sign 25 = .ok (.iconst (-1), 1) := by decide +kernel
theorem dX1_sign_26 : decode cX1_sign 26 = .ok (.ireturn, 1) := by decide +kernel
theorem dX1_letterOf_0 : decode cX1_letterOf 0 = .ok (.iconst 0, 1) := by decide +kernel
theorem dX1_letterOf_1 : decode cX1_letterOf 1 = .ok (.istore_n 1, 1) := by decide +kernel
theorem dX1_letterOf_2 : decode cX1_letterOf 2 = .ok (.iload_n 1, 1) := by decide +kernel
theorem dX1_letterOf_3 : decode cX1_letterOf 3 = .ok (.bipush 6, 2) := by decide +kernel
theorem dX1_letterOf_5 : decode cX1_letterOf 5 = .ok (.if_icmp .ge 20, 3) := by decide +kernel
theorem dX1_letterOf_8 : decode cX1_letterOf 8 = .ok (.getstatic 76, 3) := by decide +kernel
theorem dX1_letterOf_11 : decode cX1_letterOf 11 = .ok (.iload_n 1, 1) := by decide +kernel
theorem dX1_letterOf_12 : decode cX1_letterOf 12 = .ok (.iaload, 1) := by decide +kernel
theorem dX1_letterOf_13 : decode cX1_letterOf 13 = .ok (.iload_n 0, 1) := by decide +kernel
theorem dX1_letterOf_14 : decode cX1_letterOf 14 = .ok (.if_icmp .ne 5, 3) := by decide +kernel
theorem dX1_letterOf_17 : decode cX1_letterOf 17 = .ok (.iload_n 1, 1) := by decide +kernel
theorem dX1_letterOf_18 : decode cX1_letterOf 18 = .ok (.ireturn, 1) := by decide +kernel
theorem dX1_letterOf_19 : decode cX1_letterOf 19 = .ok (.iinc 1 1, 3) := by decide +kernel
theorem dX1_letterOf_22 : decode cX1_letterOf 22 = .ok (.goto (-20), 3) := by decide +kernel
theorem dX1_letterOf_25 : decode cX1_letterOf 25 = .ok (.iconst (-1), 1) := by decide +kernel
theorem dX1_letterOf_26 : decode cX1_letterOf 26 = .ok (.ireturn, 1) := by decide +kernel
theorem dX1_isDigit_0 : decode cX1_isDigit 0 = .ok (.iload_n 0, 1) := by decide +kernel
theorem dX1_isDigit_1 : decode cX1_isDigit 1 = .ok (.bipush 48, 2) := by decide +kernel
theorem dX1_isDigit_3 : decode cX1_isDigit 3 = .ok (.if_icmp .lt 13, 3) := by decide +kernel
theorem dX1_isDigit_6 : decode cX1_isDigit 6 = .ok (.iload_n 0, 1) := by decide +kernel
theorem dX1_isDigit_7 : decode cX1_isDigit 7 = .ok (.bipush 57, 2) := by decide +kernel
theorem dX1_isDigit_9 : decode cX1_isDigit 9 = .ok (.if_icmp .gt 7, 3) := by decide +kernel
theorem dX1_isDigit_12 : decode cX1_isDigit 12 = .ok (.iconst 1, 1) := by decide +kernel
theorem dX1_isDigit_13 : decode cX1_isDigit 13 = .ok (.goto 4, 3) := by decide +kernel
theorem dX1_isDigit_16 : decode cX1_isDigit 16 = .ok (.iconst 0, 1) := by decide +kernel
theorem dX1_isDigit_17 : decode cX1_isDigit 17 = .ok (.ireturn, 1) := by decide +kernel
theorem dX1_fault_0 : decode cX1_fault 0 = .ok (.bipush 100, 2) := by decide +kernel
theorem dX1_fault_2 : decode cX1_fault 2 = .ok (.iload_n 0, 1) := by decide +kernel
theorem dX1_fault_3 : decode cX1_fault 3 = .ok (.imul, 1) := by decide +kernel
theorem dX1_fault_4 : decode cX1_fault 4 = .ok (.iload_n 1, 1) := by decide +kernel
theorem dX1_fault_5 : decode cX1_fault 5 = .ok (.iadd, 1) := by decide +kernel
theorem dX1_fault_6 : decode cX1_fault 6 = .ok (.ireturn, 1) := by decide +kernel
theorem dX2_init_0 : decode cX2_init 0 = .ok (.aload_n 0, 1) := by decide +kernel
theorem dX2_init_1 : decode cX2_init 1 = .ok (.invokespecial 5, 3) := by decide +kernel
theorem dX2_init_4 : decode cX2_init 4 = .ok (.aload_n 0, 1) := by decide +kernel
theorem dX2_init_5 : decode cX2_init 5 = .ok (.bipush 6, 2) := by decide +kernel
theorem dX2_init_7 : decode cX2_init 7 = .ok (.newarray .int, 2) := by decide +kernel
theorem dX2_init_9 : decode cX2_init 9 = .ok (.putfield 11, 3) := by decide +kernel
theorem dX2_init_12 : decode cX2_init 12 = .ok (.aload_n 0, 1) := by decide +kernel
theorem dX2_init_13 : decode cX2_init 13 = .ok (.bipush 6, 2) := by decide +kernel
theorem dX2_init_15 : decode cX2_init 15 = .ok (.newarray .int, 2) := by decide +kernel
theorem dX2_init_17 : decode cX2_init 17 = .ok (.putfield 15, 3) := by decide +kernel
theorem dX2_init_20 : decode cX2_init 20 = .ok (.aload_n 0, 1) := by decide +kernel
theorem dX2_init_21 : decode cX2_init 21 = .ok (.bipush 6, 2) := by decide +kernel
theorem dX2_init_23 : decode cX2_init 23 = .ok (.newarray .int, 2) := by decide +kernel
theorem dX2_init_25 : decode cX2_init 25 = .ok (.putfield 18, 3) := by decide +kernel
theorem dX2_init_28 : decode cX2_init 28 = .ok (.aload_n 0, 1) := by decide +kernel
theorem dX2_init_29 : decode cX2_init 29 = .ok (.bipush 91, 2) := by decide +kernel
theorem dX2_init_31 : decode cX2_init 31 = .ok (.newarray .int, 2) := by decide +kernel
theorem dX2_init_33 : decode cX2_init 33 = .ok (.putfield 21, 3) := by decide +kernel
theorem dX2_init_36 : decode cX2_init 36 = .ok (.aload_n 0, 1) := by decide +kernel
theorem dX2_init_37 : decode cX2_init 37 = .ok (.aload_n 1, 1) := by decide +kernel
theorem dX2_init_38 : decode cX2_init 38 = .ok (.putfield 24, 3) := by decide +kernel
theorem dX2_init_41 : decode cX2_init 41 = .ok (.return_, 1) := by decide +kernel
theorem dX2_waitsOf_0 : decode cX2_waitsOf 0 = .ok (.lload_n 0, 1) := by decide +kernel
theorem dX2_waitsOf_1 : decode cX2_waitsOf 1 = .ok (.bipush 16, 2) := by decide +kernel
theorem dX2_waitsOf_3 : decode cX2_waitsOf 3 = .ok (.lshr, 1) := by decide +kernel
theorem dX2_waitsOf_4 : decode cX2_waitsOf 4 = .ok (.l2i, 1) := by decide +kernel
theorem dX2_waitsOf_5 : decode cX2_waitsOf 5 = .ok (.ireturn, 1) := by decide +kernel
theorem dX2_endOf_0 : decode cX2_endOf 0 = .ok (.lload_n 0, 1) := by decide +kernel
theorem dX2_endOf_1 : decode cX2_endOf 1 = .ok (.ldc2_w 28, 3) := by decide +kernel
theorem dX2_endOf_4 : decode cX2_endOf 4 = .ok (.land, 1) := by decide +kernel
theorem dX2_endOf_5 : decode cX2_endOf 5 = .ok (.l2i, 1) := by decide +kernel
theorem dX2_endOf_6 : decode cX2_endOf 6 = .ok (.ireturn, 1) := by decide +kernel
theorem dX2_forgetBoats_0 : decode cX2_forgetBoats 0 = .ok (.aload_n 0, 1) := by decide +kernel
theorem dX2_forgetBoats_1 : decode cX2_forgetBoats 1 = .ok (.iconst 0, 1) := by decide +kernel
theorem dX2_forgetBoats_2 : decode cX2_forgetBoats 2 = .ok (.putfield 30, 3) := by decide +kernel
theorem dX2_forgetBoats_5 : decode cX2_forgetBoats 5 = .ok (.return_, 1) := by decide +kernel
theorem dX2_addBoat_0 : decode cX2_addBoat 0 = .ok (.aload_n 0, 1) := by decide +kernel
theorem dX2_addBoat_1 : decode cX2_addBoat 1 = .ok (.getfield 30, 3) := by decide +kernel
theorem dX2_addBoat_4 : decode cX2_addBoat 4 = .ok (.bipush 6, 2) := by decide +kernel
theorem dX2_addBoat_6 : decode cX2_addBoat 6 = .ok (.if_icmp .ge 52, 3) := by decide +kernel
theorem dX2_addBoat_9 : decode cX2_addBoat 9 = .ok (.aload_n 0, 1) := by decide +kernel
theorem dX2_addBoat_10 : decode cX2_addBoat 10 = .ok (.getfield 11, 3) := by decide +kernel
theorem dX2_addBoat_13 : decode cX2_addBoat 13 = .ok (.aload_n 0, 1) := by decide +kernel
theorem dX2_addBoat_14 : decode cX2_addBoat 14 = .ok (.getfield 30, 3) := by decide +kernel
theorem dX2_addBoat_17 : decode cX2_addBoat 17 = .ok (.aload_n 1, 1) := by decide +kernel
theorem dX2_addBoat_18 : decode cX2_addBoat 18 = .ok (.getfield 34, 3) := by decide +kernel
theorem dX2_addBoat_21 : decode cX2_addBoat 21 = .ok (.iastore, 1) := by decide +kernel
theorem dX2_addBoat_22 : decode cX2_addBoat 22 = .ok (.aload_n 0, 1) := by decide +kernel
theorem dX2_addBoat_23 : decode cX2_addBoat 23 = .ok (.getfield 15, 3) := by decide +kernel
theorem dX2_addBoat_26 : decode cX2_addBoat 26 = .ok (.aload_n 0, 1) := by decide +kernel
theorem dX2_addBoat_27 : decode cX2_addBoat 27 = .ok (.getfield 30, 3) := by decide +kernel
theorem dX2_addBoat_30 : decode cX2_addBoat 30 = .ok (.aload_n 1, 1) := by decide +kernel
theorem dX2_addBoat_31 : decode cX2_addBoat 31 = .ok (.getfield 39, 3) := by decide +kernel
theorem dX2_addBoat_34 : decode cX2_addBoat 34 = .ok (.iastore, 1) := by decide +kernel
theorem dX2_addBoat_35 : decode cX2_addBoat 35 = .ok (.aload_n 0, 1) := by decide +kernel
theorem dX2_addBoat_36 : decode cX2_addBoat 36 = .ok (.getfield 18, 3) := by decide +kernel
theorem dX2_addBoat_39 : decode cX2_addBoat 39 = .ok (.aload_n 0, 1) := by decide +kernel
theorem dX2_addBoat_40 : decode cX2_addBoat 40 = .ok (.getfield 30, 3) := by decide +kernel
theorem dX2_addBoat_43 : decode cX2_addBoat 43 = .ok (.aload_n 1, 1) := by decide +kernel
theorem dX2_addBoat_44 : decode cX2_addBoat 44 = .ok (.getfield 42, 3) := by decide +kernel
theorem dX2_addBoat_47 : decode cX2_addBoat 47 = .ok (.iastore, 1) := by decide +kernel
theorem dX2_addBoat_48 : decode cX2_addBoat 48 = .ok (.aload_n 0, 1) := by decide +kernel
theorem dX2_addBoat_49 : decode cX2_addBoat 49 = .ok (.dup, 1) := by decide +kernel
theorem dX2_addBoat_50 : decode cX2_addBoat 50 = .ok (.getfield 30, 3) := by decide +kernel
theorem dX2_addBoat_53 : decode cX2_addBoat 53 = .ok (.iconst 1, 1) := by decide +kernel
theorem dX2_addBoat_54 : decode cX2_addBoat 54 = .ok (.iadd, 1) := by decide +kernel
theorem dX2_addBoat_55 : decode cX2_addBoat 55 = .ok (.putfield 30, 3) := by decide +kernel
theorem dX2_addBoat_58 : decode cX2_addBoat 58 = .ok (.return_, 1) := by decide +kernel
set_option maxRecDepth 20000 in
theorem ggX2_best_X2_layOutRow : GoodIn wsX2_best wsX2_layOutRow := goodIn_r _ [11, 12, 13, 14, 15, 16, 17, 18, 19, 20, 21, 22, 23, 24, 25, 26, 27, 28, 29, 30, 31, 32, 56, 57, 58, 59, 60, 61, 62, 63, 64, 65, 66, 67, 68, 69, 70, 71, 72, 73] (by decide +kernel) (by decide +kernel)
set_option maxRecDepth 20000 in
theorem gX2_best_X2_layOutRow : GoodIn wsX2_best (wsV RX2 56 RX2 yX2_layOutRow wsX2_layOutRow) := goodIn_app (goodIn_of _ (by decide +kernel)) ggX2_best_X2_layOutRow
set_option maxRecDepth 20000 in
theorem ggX2_best_X2_bestFrom : GoodIn wsX2_best wsX2_bestFrom := goodIn_r _ [36, 37, 5, 12, 1, 3, 38, 39, 40, 41, 42, 43, 44, 45, 10, 46, 47, 48, 49, 6, 33, 34, 35, 50, 4, 51, 52, 53, 54, 55, 56, 57, 58, 59, 60, 61, 62, 63, 64] (by decide +kernel) (by decide +kernel)
set_option maxRecDepth 20000 in
theorem gX2_best_X2_bestFrom : GoodIn wsX2_best (wsV RX2 60 RX2 yX2_bestFrom wsX2_bestFrom) := goodIn_app (goodIn_of _ (by decide +kernel)) ggX2_best_X2_bestFrom
theorem dX2_best_0 : decode cX2_best 0 = .ok (.aload_n 0, 1) := by decide +kernel
theorem dX2_best_1 : decode cX2_best 1 = .ok (.getfield 45, 3) := by decide +kernel
theorem dX2_best_4 : decode cX2_best 4 = .ok (.ifnonnull 12, 3) := by decide +kernel
theorem dX2_best_7 : decode cX2_best 7 = .ok (.aload_n 0, 1) := by decide +kernel
theorem dX2_best_8 : decode cX2_best 8 = .ok (.sipush 23296, 3) := by decide +kernel
theorem dX2_best_11 : decode cX2_best 11 = .ok (.newarray .long, 2) := by decide +kernel
theorem dX2_best_13 : decode cX2_best 13 = .ok (.putfield 45, 3) := by decide +kernel
theorem dX2_best_16 : decode cX2_best 16 = .ok (.aload_n 0, 1) := by decide +kernel
theorem dX2_best_17 : decode cX2_best 17 = .ok (.dup, 1) := by decide +kernel
theorem dX2_best_18 : decode cX2_best 18 = .ok (.getfield 49, 3) := by decide +kernel
theorem dX2_best_21 : decode cX2_best 21 = .ok (.lconst 1, 1) := by decide +kernel
theorem dX2_best_22 : decode cX2_best 22 = .ok (.ladd, 1) := by decide +kernel
theorem dX2_best_23 : decode cX2_best 23 = .ok (.putfield 49, 3) := by decide +kernel
theorem dX2_best_26 : decode cX2_best 26 = .ok (.aload_n 0, 1) := by decide +kernel
theorem dX2_best_27 : decode cX2_best 27 = .ok (.iload_n 3, 1) := by decide +kernel
theorem dX2_best_28 : decode cX2_best 28 = .ok (.putfield 53, 3) := by decide +kernel
theorem dX2_best_31 : decode cX2_best 31 = .ok (.aload_n 0, 1) := by decide +kernel
theorem dX2_best_32 : decode cX2_best 32 = .ok (.iconst 0, 1) := by decide +kernel
theorem dX2_best_33 : decode cX2_best 33 = .ok (.iload_n 2, 1) := by decide +kernel
theorem dX2_best_34 : decode cX2_best 34 = .ok (.invokevirtual 56, 3) := by decide +kernel
theorem dX2_best_37 : decode cX2_best 37 = .ok (.iconst 0, 1) := by decide +kernel
theorem dX2_best_38 : decode cX2_best 38 = .ok (.istore 4, 2) := by decide +kernel
theorem dX2_best_40 : decode cX2_best 40 = .ok (.iload 4, 2) := by decide +kernel
theorem dX2_best_42 : decode cX2_best 42 = .ok (.aload_n 0, 1) := by decide +kernel
theorem dX2_best_43 : decode cX2_best 43 = .ok (.getfield 30, 3) := by decide +kernel
theorem dX2_best_46 : decode cX2_best 46 = .ok (.if_icmp .ge 24, 3) := by decide +kernel
theorem dX2_best_49 : decode cX2_best 49 = .ok (.aload_n 0, 1) := by decide +kernel
theorem dX2_best_50 : decode cX2_best 50 = .ok (.iload 4, 2) := by decide +kernel
theorem dX2_best_52 : decode cX2_best 52 = .ok (.iconst 1, 1) := by decide +kernel
theorem dX2_best_53 : decode cX2_best 53 = .ok (.iadd, 1) := by decide +kernel
theorem dX2_best_54 : decode cX2_best 54 = .ok (.aload_n 0, 1) := by decide +kernel
theorem dX2_best_55 : decode cX2_best 55 = .ok (.getfield 15, 3) := by decide +kernel
theorem dX2_best_58 : decode cX2_best 58 = .ok (.iload 4, 2) := by decide +kernel
theorem dX2_best_60 : decode cX2_best 60 = .ok (.iaload, 1) := by decide +kernel
theorem dX2_best_61 : decode cX2_best 61 = .ok (.invokevirtual 56, 3) := by decide +kernel
theorem dX2_best_64 : decode cX2_best 64 = .ok (.iinc 4 1, 3) := by decide +kernel
theorem dX2_best_67 : decode cX2_best 67 = .ok (.goto (-27), 3) := by decide +kernel
theorem dX2_best_70 : decode cX2_best 70 = .ok (.aload_n 0, 1) := by decide +kernel
theorem dX2_best_71 : decode cX2_best 71 = .ok (.iconst 0, 1) := by decide +kernel
theorem dX2_best_72 : decode cX2_best 72 = .ok (.iload_n 1, 1) := by decide +kernel
theorem dX2_best_73 : decode cX2_best 73 = .ok (.iconst 0, 1) := by decide +kernel
theorem dX2_best_74 : decode cX2_best 74 = .ok (.iconst 0, 1) := by decide +kernel
theorem dX2_best_75 : decode cX2_best 75 = .ok (.iconst 0, 1) := by decide +kernel
theorem dX2_best_76 : decode cX2_best 76 = .ok (.invokevirtual 60, 3) := by decide +kernel
theorem dX2_best_79 : decode cX2_best 79 = .ok (.lreturn, 1) := by decide +kernel
set_option maxRecDepth 20000 in
theorem ggX2_layOutRow_X4_endOf : GoodIn wsX2_layOutRow wsX4_endOf := goodIn_r _ [7, 8, 9, 10, 11, 12, 13, 14, 15, 16, 17, 6, 18, 19, 20, 21, 31, 32, 33, 34, 35, 36, 37, 38, 39] (by decide +kernel) (by decide +kernel)
set_option maxRecDepth 20000 in
theorem gX2_layOutRow_X4_endOf : GoodIn wsX2_layOutRow (wsV RX2 64 RX4 yX4_endOf wsX4_endOf) := goodIn_app (goodIn_of _ (by decide +kernel)) ggX2_layOutRow_X4_endOf
theorem dX2_layOutRow_0 : decode cX2_layOutRow 0 = .ok (.iload_n 2, 1) := by decide +kernel
theorem dX2_layOutRow_1 : decode cX2_layOutRow 1 = .ok (.istore_n 3, 1) := by decide +kernel
theorem dX2_layOutRow_2 : decode cX2_layOutRow 2 = .ok (.iload_n 1, 1) := by decide +kernel
theorem dX2_layOutRow_3 : decode cX2_layOutRow 3 = .ok (.bipush 13, 2) := by decide +kernel
theorem dX2_layOutRow_5 : decode cX2_layOutRow 5 = .ok (.imul, 1) := by decide +kernel
theorem dX2_layOutRow_6 : decode cX2_layOutRow 6 = .ok (.istore 4, 2) := by decide +kernel
theorem dX2_layOutRow_8 : decode cX2_layOutRow 8 = .ok (.iload 4, 2) := by decide +kernel
theorem dX2_layOutRow_10 : decode cX2_layOutRow 10 = .ok (.iload_n 1, 1) := by decide +kernel
theorem dX2_layOutRow_11 : decode cX2_layOutRow 11 = .ok (.iconst 1, 1) := by decide +kernel
theorem dX2_layOutRow_12 : decode cX2_layOutRow 12 = .ok (.iadd, 1) := by decide +kernel
theorem dX2_layOutRow_13 : decode cX2_layOutRow 13 = .ok (.bipush 13, 2) := by decide +kernel
theorem dX2_layOutRow_15 : decode cX2_layOutRow 15 = .ok (.imul, 1) := by decide +kernel
theorem dX2_layOutRow_16 : decode cX2_layOutRow 16 = .ok (.if_icmp .ge 33, 3) := by decide +kernel
theorem dX2_layOutRow_19 : decode cX2_layOutRow 19 = .ok (.iload 4, 2) := by decide +kernel
theorem dX2_layOutRow_21 : decode cX2_layOutRow 21 = .ok (.bipush 91, 2) := by decide +kernel
theorem dX2_layOutRow_23 : decode cX2_layOutRow 23 = .ok (.if_icmp .ge 26, 3) := by decide +kernel
theorem dX2_layOutRow_26 : decode cX2_layOutRow 26 = .ok (.aload_n 0, 1) := by decide +kernel
theorem dX2_layOutRow_27 : decode cX2_layOutRow 27 = .ok (.getfield 21, 3) := by decide +kernel
theorem dX2_layOutRow_30 : decode cX2_layOutRow 30 = .ok (.iload 4, 2) := by decide +kernel
theorem dX2_layOutRow_32 : decode cX2_layOutRow 32 = .ok (.iload_n 3, 1) := by decide +kernel
theorem dX2_layOutRow_33 : decode cX2_layOutRow 33 = .ok (.iastore, 1) := by decide +kernel
theorem dX2_layOutRow_34 : decode cX2_layOutRow 34 = .ok (.aload_n 0, 1) := by decide +kernel
theorem dX2_layOutRow_35 : decode cX2_layOutRow 35 = .ok (.getfield 24, 3) := by decide +kernel
theorem dX2_layOutRow_38 : decode cX2_layOutRow 38 = .ok (.iload_n 3, 1) := by decide +kernel
theorem dX2_layOutRow_39 : decode cX2_layOutRow 39 = .ok (.invokevirtual 64, 3) := by decide +kernel
theorem dX2_layOutRow_42 : decode cX2_layOutRow 42 = .ok (.istore_n 3, 1) := by decide +kernel
theorem dX2_layOutRow_43 : decode cX2_layOutRow 43 = .ok (.iinc 4 1, 3) := by decide +kernel
theorem dX2_layOutRow_46 : decode cX2_layOutRow 46 = .ok (.goto (-38), 3) := by decide +kernel
theorem dX2_layOutRow_49 : decode cX2_layOutRow 49 = .ok (.return_, 1) := by decide +kernel
set_option maxRecDepth 20000 in
theorem ggX2_bestFrom_X2_bestByRiding : GoodIn wsX2_bestFrom wsX2_bestByRiding := goodIn_r _ [23, 1, 3, 24, 2, 25, 19, 26, 7, 8, 9, 10, 27, 28, 29, 20, 21, 22, 14, 0, 4, 5, 6, 11, 12, 13, 15, 16, 17, 18, 30, 31, 32, 33, 34, 35, 36, 37, 38] (by decide +kernel) (by decide +kernel)
set_option maxRecDepth 20000 in
theorem gX2_bestFrom_X2_bestByRiding : GoodIn wsX2_bestFrom (wsV RX2 74 RX2 yX2_bestByRiding wsX2_bestByRiding) := goodIn_app (goodIn_of _ (by decide +kernel)) ggX2_bestFrom_X2_bestByRiding
set_option maxRecDepth 20000 in
theorem ggX2_bestFrom_X2_momentOfNextBoat : GoodIn wsX2_bestFrom wsX2_momentOfNextBoat := goodIn_r _ [18, 2, 19, 30, 31, 32, 33, 34, 35, 36, 37, 38] (by decide +kernel) (by decide +kernel)
set_option maxRecDepth 20000 in
theorem gX2_bestFrom_X2_momentOfNextBoat : GoodIn wsX2_bestFrom (wsV RX2 77 RX2 yX2_momentOfNextBoat wsX2_momentOfNextBoat) := goodIn_app (goodIn_of _ (by decide +kernel)) ggX2_bestFrom_X2_momentOfNextBoat
set_option maxRecDepth 20000 in
theorem ggX2_bestFrom_X2_bestFrom : GoodIn wsX2_bestFrom wsX2_bestFrom := goodIn_r _ [0, 1, 2, 3, 4, 5, 6, 7, 8, 9, 10, 11, 12, 13, 14, 15, 16, 17, 18, 19, 20, 21, 22, 23, 24, 25, 26, 27, 28, 29, 30, 31, 32, 33, 34, 35, 36, 37, 38] (by decide +kernel) (by decide +kernel)
set_option maxRecDepth 20000 in
theorem gX2_bestFrom_X2_bestFrom : GoodIn wsX2_bestFrom (wsV RX2 60 RX2 yX2_bestFrom wsX2_bestFrom) := goodIn_app (goodIn_of _ (by decide +kernel)) ggX2_bestFrom_X2_bestFrom
theorem dX2_bestFrom_0 : decode cX2_bestFrom 0 = .ok (.iload_n 1, 1) := by decide +kernel
theorem dX2_bestFrom_1 : decode cX2_bestFrom 1 = .ok (.ifCond .lt 16, 3) := by decide +kernel
theorem dX2_bestFrom_4 : decode cX2_bestFrom 4 = .ok (.iload_n 1, 1) := by decide +kernel
theorem dX2_bestFrom_5 : decode cX2_bestFrom 5 = .ok (.bipush 91, 2) := by decide +kernel
theorem dX2_bestFrom_7 : decode cX2_bestFrom 7 = .ok (.if_icmp .ge 10, 3) := by decide +kernel
theorem dX2_bestFrom_10 : decode cX2_bestFrom 10 = .ok (.iload 5, 2) := by decide +kernel
theorem dX2_bestFrom_12 : decode cX2_bestFrom 12 = .ok (.bipush 18, 2) := by decide +kernel
theorem dX2_bestFrom_14 : decode cX2_bestFrom 14 = .ok (.if_icmp .le 7, 3) := by decide +kernel
theorem dX2_bestFrom_17 : decode cX2_bestFrom 17 = .ok (.ldc2_w 70, 3) := by decide +kernel
theorem dX2_bestFrom_20 : decode cX2_bestFrom 20 = .ok (.lreturn, 1) := by decide +kernel
theorem dX2_bestFrom_21 : decode cX2_bestFrom 21 = .ok (.iload_n 3, 1) := by decide +kernel
theorem dX2_bestFrom_22 : decode cX2_bestFrom 22 = .ok (.iconst 1, 1) := by decide +kernel
theorem dX2_bestFrom_23 : decode cX2_bestFrom 23 = .ok (.aload_n 0, 1) := by decide +kernel
theorem dX2_bestFrom_24 : decode cX2_bestFrom 24 = .ok (.getfield 30, 3) := by decide +kernel
theorem dX2_bestFrom_27 : decode cX2_bestFrom 27 = .ok (.ishl, 1) := by decide +kernel
theorem dX2_bestFrom_28 : decode cX2_bestFrom 28 = .ok (.iconst 1, 1) := by decide +kernel
theorem dX2_bestFrom_29 : decode cX2_bestFrom 29 = .ok (.isub, 1) := by decide +kernel
theorem dX2_bestFrom_30 : decode cX2_bestFrom 30 = .ok (.if_icmp .ne 11, 3) := by decide +kernel
theorem dX2_bestFrom_33 : decode cX2_bestFrom 33 = .ok (.aload_n 0, 1) := by decide +kernel
theorem dX2_bestFrom_34 : decode cX2_bestFrom 34 = .ok (.getfield 21, 3) := by decide +kernel
theorem dX2_bestFrom_37 : decode cX2_bestFrom 37 = .ok (.iload_n 1, 1) := by decide +kernel
theorem dX2_bestFrom_38 : decode cX2_bestFrom 38 = .ok (.iaload, 1) := by decide +kernel
theorem dX2_bestFrom_39 : decode cX2_bestFrom 39 = .ok (.i2l, 1) := by decide +kernel
theorem dX2_bestFrom_40 : decode cX2_bestFrom 40 = .ok (.lreturn, 1) := by decide +kernel
theorem dX2_bestFrom_41 : decode cX2_bestFrom 41 = .ok (.iload_n 1, 1) := by decide +kernel
theorem dX2_bestFrom_42 : decode cX2_bestFrom 42 = .ok (.iconst 2, 1) := by decide +kernel
theorem dX2_bestFrom_43 : decode cX2_bestFrom 43 = .ok (.imul, 1) := by decide +kernel
theorem dX2_bestFrom_44 : decode cX2_bestFrom 44 = .ok (.iload_n 2, 1) := by decide +kernel
theorem dX2_bestFrom_45 : decode cX2_bestFrom 45 = .ok (.iadd, 1) := by decide +kernel
theorem dX2_bestFrom_46 : decode cX2_bestFrom 46 = .ok (.bipush 64, 2) := by decide +kernel
theorem dX2_bestFrom_48 : decode cX2_bestFrom 48 = .ok (.imul, 1) := by decide +kernel
theorem dX2_bestFrom_49 : decode cX2_bestFrom 49 = .ok (.iload_n 3, 1) := by decide +kernel
theorem dX2_bestFrom_50 : decode cX2_bestFrom 50 = .ok (.iadd, 1) := by decide +kernel
theorem dX2_bestFrom_51 : decode cX2_bestFrom 51 = .ok (.iconst 2, 1) := by decide +kernel
theorem dX2_bestFrom_52 : decode cX2_bestFrom 52 = .ok (.imul, 1) := by decide +kernel
theorem dX2_bestFrom_53 : decode cX2_bestFrom 53 = .ok (.iload 4, 2) := by decide +kernel
theorem dX2_bestFrom_55 : decode cX2_bestFrom 55 = .ok (.ifCond .eq 7, 3) := by decide +kernel
theorem dX2_bestFrom_58 : decode cX2_bestFrom 58 = .ok (.iconst 1, 1) := by decide +kernel
theorem dX2_bestFrom_59 : decode cX2_bestFrom 59 = .ok (.goto 4, 3) := by decide +kernel
theorem dX2_bestFrom_62 : decode cX2_bestFrom 62 = .ok (.iconst 0, 1) := by decide +kernel
theorem dX2_bestFrom_63 : decode cX2_bestFrom 63 = .ok (.iadd, 1) := by decide +kernel
theorem dX2_bestFrom_64 : decode cX2_bestFrom 64 = .ok (.istore 6, 2) := by decide +kernel
theorem dX2_bestFrom_66 : decode cX2_bestFrom 66 = .ok (.aload_n 0, 1) := by decide +kernel
theorem dX2_bestFrom_67 : decode cX2_bestFrom 67 = .ok (.getfield 45, 3) := by decide +kernel
theorem dX2_bestFrom_70 : decode cX2_bestFrom 70 = .ok (.ifnull 18, 3) := by decide +kernel
theorem dX2_bestFrom_73 : decode cX2_bestFrom 73 = .ok (.iload 6, 2) := by decide +kernel
theorem dX2_bestFrom_75 : decode cX2_bestFrom 75 = .ok (.ifCond .lt 13, 3) := by decide +kernel
theorem dX2_bestFrom_78 : decode cX2_bestFrom 78 = .ok (.iload 6, 2) := by decide +kernel
theorem dX2_bestFrom_80 : decode cX2_bestFrom 80 = .ok (.aload_n 0, 1) := by decide +kernel
theorem dX2_bestFrom_81 : decode cX2_bestFrom 81 = .ok (.getfield 45, 3) := by decide +kernel
theorem dX2_bestFrom_84 : decode cX2_bestFrom 84 = .ok (.arraylength, 1) := by decide +kernel
theorem dX2_bestFrom_85 : decode cX2_bestFrom 85 = .ok (.if_icmp .lt 7, 3) := by decide +kernel
theorem dX2_bestFrom_88 : decode cX2_bestFrom 88 = .ok (.ldc2_w 70, 3) := by decide +kernel
theorem dX2_bestFrom_91 : decode cX2_bestFrom 91 = .ok (.lreturn, 1) := by decide +kernel
theorem dX2_bestFrom_92 : decode cX2_bestFrom 92 = .ok (.aload_n 0, 1) := by decide +kernel
theorem dX2_bestFrom_93 : decode cX2_bestFrom 93 = .ok (.getfield 45, 3) := by decide +kernel
theorem dX2_bestFrom_96 : decode cX2_bestFrom 96 = .ok (.iload 6, 2) := by decide +kernel
theorem dX2_bestFrom_98 : decode cX2_bestFrom 98 = .ok (.laload, 1) := by decide +kernel
theorem dX2_bestFrom_99 : decode cX2_bestFrom 99 = .ok (.bipush 40, 2) := by decide +kernel
theorem dX2_bestFrom_101 : decode cX2_bestFrom 101 = .ok (.lushr, 1) := by decide +kernel
theorem dX2_bestFrom_102 : decode cX2_bestFrom 102 = .ok (.aload_n 0, 1) := by decide +kernel
theorem dX2_bestFrom_103 : decode cX2_bestFrom 103 = .ok (.getfield 49, 3) := by decide +kernel
theorem dX2_bestFrom_106 : decode cX2_bestFrom 106 = .ok (.lcmp, 1) := by decide +kernel
theorem dX2_bestFrom_107 : decode cX2_bestFrom 107 = .ok (.ifCond .ne 15, 3) := by decide +kernel
theorem dX2_bestFrom_110 : decode cX2_bestFrom 110 = .ok (.aload_n 0, 1) := by decide +kernel
theorem dX2_bestFrom_111 : decode cX2_bestFrom 111 = .ok (.getfield 45, 3) := by decide +kernel
theorem dX2_bestFrom_114 : decode cX2_bestFrom 114 = .ok (.iload 6, 2) := by decide +kernel
theorem dX2_bestFrom_116 : decode cX2_bestFrom 116 = .ok (.laload, 1) := by decide +kernel
theorem dX2_bestFrom_117 : decode cX2_bestFrom 117 = .ok (.ldc2_w 72, 3) := by decide +kernel
theorem dX2_bestFrom_120 : decode cX2_bestFrom 120 = .ok (.land, 1) := by decide +kernel
theorem dX2_bestFrom_121 : decode cX2_bestFrom 121 = .ok (.lreturn, 1) := by decide +kernel
theorem dX2_bestFrom_122 : decode cX2_bestFrom 122 = .ok (.aload_n 0, 1) := by decide +kernel
theorem dX2_bestFrom_123 : decode cX2_bestFrom 123 = .ok (.iload_n 1, 1) := by decide +kernel
theorem dX2_bestFrom_124 : decode cX2_bestFrom 124 = .ok (.iload_n 2, 1) := by decide +kernel
theorem dX2_bestFrom_125 : decode cX2_bestFrom 125 = .ok (.iload_n 3, 1) := by decide +kernel
theorem dX2_bestFrom_126 : decode cX2_bestFrom 126 = .ok (.iload 4, 2) := by decide +kernel
theorem dX2_bestFrom_128 : decode cX2_bestFrom 128 = .ok (.iload 5, 2) := by decide +kernel
theorem dX2_bestFrom_130 : decode cX2_bestFrom 130 = .ok (.invokevirtual 74, 3) := by decide +kernel
theorem dX2_bestFrom_133 : decode cX2_bestFrom 133 = .ok (.lstore 7, 2) := by decide +kernel
theorem dX2_bestFrom_135 : decode cX2_bestFrom 135 = .ok (.aload_n 0, 1) := by decide +kernel
theorem dX2_bestFrom_136 : decode cX2_bestFrom 136 = .ok (.aload_n 0, 1) := by decide +kernel
theorem dX2_bestFrom_137 : decode cX2_bestFrom 137 = .ok (.getfield 21, 3) := by decide +kernel
theorem dX2_bestFrom_140 : decode cX2_bestFrom 140 = .ok (.iload_n 1, 1) := by decide +kernel
theorem dX2_bestFrom_141 : decode cX2_bestFrom 141 = .ok (.iaload, 1) := by decide +kernel
theorem dX2_bestFrom_142 : decode cX2_bestFrom 142 = .ok (.invokevirtual 77, 3) := by decide +kernel
theorem dX2_bestFrom_145 : decode cX2_bestFrom 145 = .ok (.istore 9, 2) := by decide +kernel
theorem dX2_bestFrom_147 : decode cX2_bestFrom 147 = .ok (.iload 9, 2) := by decide +kernel
theorem dX2_bestFrom_149 : decode cX2_bestFrom 149 = .ok (.iconst (-1), 1) := by decide +kernel
theorem dX2_bestFrom_150 : decode cX2_bestFrom 150 = .ok (.if_icmp .eq 24, 3) := by decide +kernel
theorem dX2_bestFrom_153 : decode cX2_bestFrom 153 = .ok (.lload 7, 2) := by decide +kernel
theorem dX2_bestFrom_155 : decode cX2_bestFrom 155 = .ok (.aload_n 0, 1) := by decide +kernel
theorem dX2_bestFrom_156 : decode cX2_bestFrom 156 = .ok (.iload 9, 2) := by decide +kernel
theorem dX2_bestFrom_158 : decode cX2_bestFrom 158 = .ok (.iload_n 2, 1) := by decide +kernel
theorem dX2_bestFrom_159 : decode cX2_bestFrom 159 = .ok (.iload_n 3, 1) := by decide +kernel
theorem dX2_bestFrom_160 : decode cX2_bestFrom 160 = .ok (.iload 4, 2) := by decide +kernel
theorem dX2_bestFrom_162 : decode cX2_bestFrom 162 = .ok (.iload 5, 2) := by decide +kernel
theorem dX2_bestFrom_164 : decode cX2_bestFrom 164 = .ok (.iconst 1, 1) := by decide +kernel
theorem dX2_bestFrom_165 : decode cX2_bestFrom 165 = .ok (.iadd, 1) := by decide +kernel
theorem dX2_bestFrom_166 : decode cX2_bestFrom 166 = .ok (.invokevirtual 60, 3) := by decide +kernel
theorem dX2_bestFrom_169 : decode cX2_bestFrom 169 = .ok (.invokestatic 80, 3) := by decide +kernel
theorem dX2_bestFrom_172 : decode cX2_bestFrom 172 = .ok (.lstore 7, 2) := by decide +kernel
theorem dX2_bestFrom_174 : decode cX2_bestFrom 174 = .ok (.aload_n 0, 1) := by decide +kernel
theorem dX2_bestFrom_175 : decode cX2_bestFrom 175 = .ok (.getfield 45, 3) := by decide +kernel
theorem dX2_bestFrom_178 : decode cX2_bestFrom 178 = .ok (.iload 6, 2) := by decide +kernel
theorem dX2_bestFrom_180 : decode cX2_bestFrom 180 = .ok (.aload_n 0, 1) := by decide +kernel
theorem dX2_bestFrom_181 : decode cX2_bestFrom 181 = .ok (.getfield 49, 3) := by decide +kernel
theorem dX2_bestFrom_184 : decode cX2_bestFrom 184 = .ok (.bipush 40, 2) := by decide +kernel
theorem dX2_bestFrom_186 : decode cX2_bestFrom 186 = .ok (.lshl, 1) := by decide +kernel
theorem dX2_bestFrom_187 : decode cX2_bestFrom 187 = .ok (.lload 7, 2) := by decide +kernel
theorem dX2_bestFrom_189 : decode cX2_bestFrom 189 = .ok (.lor, 1) := by decide +kernel
theorem dX2_bestFrom_190 : decode cX2_bestFrom 190 = .ok (.lastore, 1) := by decide +kernel
theorem dX2_bestFrom_191 : decode cX2_bestFrom 191 = .ok (.lload 7, 2) := by decide +kernel
theorem dX2_bestFrom_193 : decode cX2_bestFrom 193 = .ok (.lreturn, 1) := by decide +kernel
set_option maxRecDepth 20000 in
theorem ggX2_bestByRiding_X6_otherSide : GoodIn wsX2_bestByRiding wsX6_otherSide := goodIn_r _ [14] (by decide +kernel) (by decide +kernel)
set_option maxRecDepth 20000 in
theorem gX2_bestByRiding_X6_otherSide_n86 : GoodIn wsX2_bestByRiding (wsX6_otherSide) := ggX2_bestByRiding_X6_otherSide
set_option maxRecDepth 20000 in
theorem ggX2_bestByRiding_X2_bestFrom : GoodIn wsX2_bestByRiding wsX2_bestFrom := goodIn_r _ [19, 1, 4, 2, 20, 21, 22, 8, 9, 10, 11, 23, 24, 25, 18, 26, 27, 28, 29, 6, 15, 16, 17, 0, 3, 5, 7, 12, 13, 14, 30, 31, 32, 33, 34, 35, 36, 37, 38] (by decide +kernel) (by decide +kernel)
set_option maxRecDepth 20000 in
theorem gX2_bestByRiding_X2_bestFrom : GoodIn wsX2_bestByRiding (wsV RX2 60 RX2 yX2_bestFrom wsX2_bestFrom) := goodIn_app (goodIn_of _ (by decide +kernel)) ggX2_bestByRiding_X2_bestFrom
theorem dX2_bestByRiding_0 : decode cX2_bestByRiding 0 = .ok (.iload_n 1, 1) := by decide +kernel
theorem dX2_bestByRiding_1 : decode cX2_bestByRiding 1 = .ok (.bipush 13, 2) := by decide +kernel
theorem dX2_bestByRiding_3 : decode cX2_bestByRiding 3 = .ok (.irem, 1) := by decide +kernel
theorem dX2_bestByRiding_4 : decode cX2_bestByRiding 4 = .ok (.bipush 12, 2) := by decide +kernel
theorem dX2_bestByRiding_6 : decode cX2_bestByRiding 6 = .ok (.if_icmp .ne 7, 3) := by decide +kernel
theorem dX2_bestByRiding_9 : decode cX2_bestByRiding 9 = .ok (.ldc2_w 70, 3) := by decide +kernel
theorem dX2_bestByRiding_12 : decode cX2_bestByRiding 12 = .ok (.lreturn, 1) := by decide +kernel
theorem dX2_bestByRiding_13 : decode cX2_bestByRiding 13 = .ok (.aload_n 0, 1) := by decide +kernel
theorem dX2_bestByRiding_14 : decode cX2_bestByRiding 14 = .ok (.getfield 21, 3) := by decide +kernel
theorem dX2_bestByRiding_17 : decode cX2_bestByRiding 17 = .ok (.iload_n 1, 1) := by decide +kernel
theorem dX2_bestByRiding_18 : decode cX2_bestByRiding 18 = .ok (.iaload, 1) := by decide +kernel
theorem dX2_bestByRiding_19 : decode cX2_bestByRiding 19 = .ok (.istore 6, 2) := by decide +kernel
theorem dX2_bestByRiding_21 : decode cX2_bestByRiding 21 = .ok (.iload_n 2, 1) := by decide +kernel
theorem dX2_bestByRiding_22 : decode cX2_bestByRiding 22 = .ok (.invokestatic 86, 3) := by decide +kernel
theorem dX2_bestByRiding_25 : decode cX2_bestByRiding 25 = .ok (.istore 7, 2) := by decide +kernel
theorem dX2_bestByRiding_27 : decode cX2_bestByRiding 27 = .ok (.iload 4, 2) := by decide +kernel
theorem dX2_bestByRiding_29 : decode cX2_bestByRiding 29 = .ok (.ifCond .eq 9, 3) := by decide +kernel
theorem dX2_bestByRiding_32 : decode cX2_bestByRiding 32 = .ok (.ldc2_w 70, 3) := by decide +kernel
theorem dX2_bestByRiding_35 : decode cX2_bestByRiding 35 = .ok (.goto 18, 3) := by decide +kernel
theorem dX2_bestByRiding_38 : decode cX2_bestByRiding 38 = .ok (.aload_n 0, 1) := by decide +kernel
theorem dX2_bestByRiding_39 : decode cX2_bestByRiding 39 = .ok (.iload_n 1, 1) := by decide +kernel
theorem dX2_bestByRiding_40 : decode cX2_bestByRiding 40 = .ok (.iconst 1, 1) := by decide +kernel
theorem dX2_bestByRiding_41 : decode cX2_bestByRiding 41 = .ok (.iadd, 1) := by decide +kernel
theorem dX2_bestByRiding_42 : decode cX2_bestByRiding 42 = .ok (.iload 7, 2) := by decide +kernel
theorem dX2_bestByRiding_44 : decode cX2_bestByRiding 44 = .ok (.iload_n 3, 1) := by decide +kernel
theorem dX2_bestByRiding_45 : decode cX2_bestByRiding 45 = .ok (.iconst 1, 1) := by decide +kernel
theorem dX2_bestByRiding_46 : decode cX2_bestByRiding 46 = .ok (.iload 5, 2) := by decide +kernel
theorem dX2_bestByRiding_48 : decode cX2_bestByRiding 48 = .ok (.iconst 1, 1) := by decide +kernel
theorem dX2_bestByRiding_49 : decode cX2_bestByRiding 49 = .ok (.iadd, 1) := by decide +kernel
theorem dX2_bestByRiding_50 : decode cX2_bestByRiding 50 = .ok (.invokevirtual 60, 3) := by decide +kernel
theorem dX2_bestByRiding_53 : decode cX2_bestByRiding 53 = .ok (.lstore 8, 2) := by decide +kernel
theorem dX2_bestByRiding_55 : decode cX2_bestByRiding 55 = .ok (.aload_n 0, 1) := by decide +kernel
theorem dX2_bestByRiding_56 : decode cX2_bestByRiding 56 = .ok (.getfield 53, 3) := by decide +kernel
theorem dX2_bestByRiding_59 : decode cX2_bestByRiding 59 = .ok (.istore 10, 2) := by decide +kernel
theorem dX2_bestByRiding_61 : decode cX2_bestByRiding 61 = .ok (.lconst 0, 1) := by decide +kernel
theorem dX2_bestByRiding_62 : decode cX2_bestByRiding 62 = .ok (.lstore 11, 2) := by decide +kernel
theorem dX2_bestByRiding_64 : decode cX2_bestByRiding 64 = .ok (.iload_n 3, 1) := by decide +kernel
theorem dX2_bestByRiding_65 : decode cX2_bestByRiding 65 = .ok (.istore 13, 2) := by decide +kernel
theorem dX2_bestByRiding_67 : decode cX2_bestByRiding 67 = .ok (.iconst 0, 1) := by decide +kernel
theorem dX2_bestByRiding_68 : decode cX2_bestByRiding 68 = .ok (.istore 14, 2) := by decide +kernel
theorem dX2_bestByRiding_70 : decode cX2_bestByRiding 70 = .ok (.iload 14, 2) := by decide +kernel
theorem dX2_bestByRiding_72 : decode cX2_bestByRiding 72 = .ok (.aload_n 0, 1) := by decide +kernel
theorem dX2_bestByRiding_73 : decode cX2_bestByRiding 73 = .ok (.getfield 30, 3) := by decide +kernel
theorem dX2_bestByRiding_76 : decode cX2_bestByRiding 76 = .ok (.if_icmp .ge 119, 3) := by decide +kernel
theorem dX2_bestByRiding_79 : decode cX2_bestByRiding 79 = .ok (.aload_n 0, 1) := by decide +kernel
theorem dX2_bestByRiding_80 : decode cX2_bestByRiding 80 = .ok (.getfield 11, 3) := by decide +kernel
theorem dX2_bestByRiding_83 : decode cX2_bestByRiding 83 = .ok (.iload 14, 2) := by decide +kernel
theorem dX2_bestByRiding_85 : decode cX2_bestByRiding 85 = .ok (.iaload, 1) := by decide +kernel
theorem dX2_bestByRiding_86 : decode cX2_bestByRiding 86 = .ok (.iload_n 2, 1) := by decide +kernel
theorem dX2_bestByRiding_87 : decode cX2_bestByRiding 87 = .ok (.if_icmp .ne 102, 3) := by decide +kernel
theorem dX2_bestByRiding_90 : decode cX2_bestByRiding 90 = .ok (.aload_n 0, 1) := by decide +kernel
theorem dX2_bestByRiding_91 : decode cX2_bestByRiding 91 = .ok (.getfield 15, 3) := by decide +kernel
theorem dX2_bestByRiding_94 : decode cX2_bestByRiding 94 = .ok (.iload 14, 2) := by decide +kernel
theorem dX2_bestByRiding_96 : decode cX2_bestByRiding 96 = .ok (.iaload, 1) := by decide +kernel
theorem dX2_bestByRiding_97 : decode cX2_bestByRiding 97 = .ok (.iload 6, 2) := by decide +kernel
theorem dX2_bestByRiding_99 : decode cX2_bestByRiding 99 = .ok (.if_icmp .gt 90, 3) := by decide +kernel
theorem dX2_bestByRiding_102 : decode cX2_bestByRiding 102 = .ok (.iload_n 3, 1) := by decide +kernel
theorem dX2_bestByRiding_103 : decode cX2_bestByRiding 103 = .ok (.iload 14, 2) := by decide +kernel
theorem dX2_bestByRiding_105 : decode cX2_bestByRiding 105 = .ok (.ishr, 1) := by decide +kernel
theorem dX2_bestByRiding_106 : decode cX2_bestByRiding 106 = .ok (.iconst 1, 1) := by decide +kernel
theorem dX2_bestByRiding_107 : decode cX2_bestByRiding 107 = .ok (.iand, 1) := by decide +kernel
theorem dX2_bestByRiding_108 : decode cX2_bestByRiding 108 = .ok (.ifCond .ne 81, 3) := by decide +kernel
theorem dX2_bestByRiding_111 : decode cX2_bestByRiding 111 = .ok (.iload 10, 2) := by decide +kernel
theorem dX2_bestByRiding_113 : decode cX2_bestByRiding 113 = .ok (.aload_n 0, 1) := by decide +kernel
theorem dX2_bestByRiding_114 : decode cX2_bestByRiding 114 = .ok (.getfield 18, 3) := by decide +kernel
theorem dX2_bestByRiding_117 : decode cX2_bestByRiding 117 = .ok (.iload 14, 2) := by decide +kernel
theorem dX2_bestByRiding_119 : decode cX2_bestByRiding 119 = .ok (.iaload, 1) := by decide +kernel
theorem dX2_bestByRiding_120 : decode cX2_bestByRiding 120 = .ok (.isub, 1) := by decide +kernel
theorem dX2_bestByRiding_121 : decode cX2_bestByRiding 121 = .ok (.istore 10, 2) := by decide +kernel
theorem dX2_bestByRiding_123 : decode cX2_bestByRiding 123 = .ok (.iload 10, 2) := by decide +kernel
theorem dX2_bestByRiding_125 : decode cX2_bestByRiding 125 = .ok (.ifCond .ge 6, 3) := by decide +kernel
theorem dX2_bestByRiding_128 : decode cX2_bestByRiding 128 = .ok (.goto 67, 3) := by decide +kernel
theorem dX2_bestByRiding_131 : decode cX2_bestByRiding 131 = .ok (.lload 11, 2) := by decide +kernel
theorem dX2_bestByRiding_133 : decode cX2_bestByRiding 133 = .ok (.iload 6, 2) := by decide +kernel
theorem dX2_bestByRiding_135 : decode cX2_bestByRiding 135 = .ok (.aload_n 0, 1) := by decide +kernel
theorem dX2_bestByRiding_136 : decode cX2_bestByRiding 136 = .ok (.getfield 15, 3) := by decide +kernel
theorem dX2_bestByRiding_139 : decode cX2_bestByRiding 139 = .ok (.iload 14, 2) := by decide +kernel
theorem dX2_bestByRiding_141 : decode cX2_bestByRiding 141 = .ok (.iaload, 1) := by decide +kernel
theorem dX2_bestByRiding_142 : decode cX2_bestByRiding 142 = .ok (.isub, 1) := by decide +kernel
theorem dX2_bestByRiding_143 : decode cX2_bestByRiding 143 = .ok (.i2l, 1) := by decide +kernel
theorem dX2_bestByRiding_144 : decode cX2_bestByRiding 144 = .ok (.ladd, 1) := by decide +kernel
theorem dX2_bestByRiding_145 : decode cX2_bestByRiding 145 = .ok (.lstore 11, 2) := by decide +kernel
theorem dX2_bestByRiding_147 : decode cX2_bestByRiding 147 = .ok (.iload 13, 2) := by decide +kernel
theorem dX2_bestByRiding_149 : decode cX2_bestByRiding 149 = .ok (.iconst 1, 1) := by decide +kernel
theorem dX2_bestByRiding_150 : decode cX2_bestByRiding 150 = .ok (.iload 14, 2) := by decide +kernel
theorem dX2_bestByRiding_152 : decode cX2_bestByRiding 152 = .ok (.ishl, 1) := by decide +kernel
theorem dX2_bestByRiding_153 : decode cX2_bestByRiding 153 = .ok (.ior, 1) := by decide +kernel
theorem dX2_bestByRiding_154 : decode cX2_bestByRiding 154 = .ok (.istore 13, 2) := by decide +kernel
theorem dX2_bestByRiding_156 : decode cX2_bestByRiding 156 = .ok (.aload_n 0, 1) := by decide +kernel
theorem dX2_bestByRiding_157 : decode cX2_bestByRiding 157 = .ok (.iload_n 1, 1) := by decide +kernel
theorem dX2_bestByRiding_158 : decode cX2_bestByRiding 158 = .ok (.iconst 1, 1) := by decide +kernel
theorem dX2_bestByRiding_159 : decode cX2_bestByRiding 159 = .ok (.iadd, 1) := by decide +kernel
theorem dX2_bestByRiding_160 : decode cX2_bestByRiding 160 = .ok (.iload 7, 2) := by decide +kernel
theorem dX2_bestByRiding_162 : decode cX2_bestByRiding 162 = .ok (.iload 13, 2) := by decide +kernel
theorem dX2_bestByRiding_164 : decode cX2_bestByRiding 164 = .ok (.iconst 0, 1) := by decide +kernel
theorem dX2_bestByRiding_165 : decode cX2_bestByRiding 165 = .ok (.iload 5, 2) := by decide +kernel
theorem dX2_bestByRiding_167 : decode cX2_bestByRiding 167 = .ok (.iconst 1, 1) := by decide +kernel
theorem dX2_bestByRiding_168 : decode cX2_bestByRiding 168 = .ok (.iadd, 1) := by decide +kernel
theorem dX2_bestByRiding_169 : decode cX2_bestByRiding 169 = .ok (.invokevirtual 60, 3) := by decide +kernel
theorem dX2_bestByRiding_172 : decode cX2_bestByRiding 172 = .ok (.lstore 15, 2) := by decide +kernel
theorem dX2_bestByRiding_174 : decode cX2_bestByRiding 174 = .ok (.lload 8, 2) := by decide +kernel
theorem dX2_bestByRiding_176 : decode cX2_bestByRiding 176 = .ok (.lload 11, 2) := by decide +kernel
theorem dX2_bestByRiding_178 : decode cX2_bestByRiding 178 = .ok (.bipush 16, 2) := by decide +kernel
theorem dX2_bestByRiding_180 : decode cX2_bestByRiding 180 = .ok (.lshl, 1) := by decide +kernel
theorem dX2_bestByRiding_181 : decode cX2_bestByRiding 181 = .ok (.lload 15, 2) := by decide +kernel
theorem dX2_bestByRiding_183 : decode cX2_bestByRiding 183 = .ok (.ladd, 1) := by decide +kernel
theorem dX2_bestByRiding_184 : decode cX2_bestByRiding 184 = .ok (.invokestatic 80, 3) := by decide +kernel
theorem dX2_bestByRiding_187 : decode cX2_bestByRiding 187 = .ok (.lstore 8, 2) := by decide +kernel
theorem dX2_bestByRiding_189 : decode cX2_bestByRiding 189 = .ok (.iinc 14 1, 3) := by decide +kernel
theorem dX2_bestByRiding_192 : decode cX2_bestByRiding 192 = .ok (.goto (-122), 3) := by decide +kernel
theorem dX2_bestByRiding_195 : decode cX2_bestByRiding 195 = .ok (.lload 8, 2) := by decide +kernel
theorem dX2_bestByRiding_197 : decode cX2_bestByRiding 197 = .ok (.lreturn, 1) := by decide +kernel
theorem dX2_momentOfNextBoat_0 : decode cX2_momentOfNextBoat 0 = .ok (.iconst (-1), 1) := by decide +kernel
theorem dX2_momentOfNextBoat_1 : decode cX2_momentOfNextBoat 1 = .ok (.istore_n 2, 1) := by decide +kernel
theorem dX2_momentOfNextBoat_2 : decode cX2_momentOfNextBoat 2 = .ok (.iconst 0, 1) := by decide +kernel
theorem dX2_momentOfNextBoat_3 : decode cX2_momentOfNextBoat 3 = .ok (.istore_n 3, 1) := by decide +kernel
theorem dX2_momentOfNextBoat_4 : decode cX2_momentOfNextBoat 4 = .ok (.iload_n 3, 1) := by decide +kernel
theorem dX2_momentOfNextBoat_5 : decode cX2_momentOfNextBoat 5 = .ok (.aload_n 0, 1) := by decide +kernel
theorem dX2_momentOfNextBoat_6 : decode cX2_momentOfNextBoat 6 = .ok (.getfield 30, 3) := by decide +kernel
theorem dX2_momentOfNextBoat_9 : decode cX2_momentOfNextBoat 9 = .ok (.if_icmp .ge 41, 3) := by decide +kernel
theorem dX2_momentOfNextBoat_12 : decode cX2_momentOfNextBoat 12 = .ok (.aload_n 0, 1) := by decide +kernel
theorem dX2_momentOfNextBoat_13 : decode cX2_momentOfNextBoat 13 = .ok (.getfield 15, 3) := by decide +kernel
theorem dX2_momentOfNextBoat_16 : decode cX2_momentOfNextBoat 16 = .ok (.iload_n 3, 1) := by decide +kernel
theorem dX2_momentOfNextBoat_17 : decode cX2_momentOfNextBoat 17 = .ok (.iaload, 1) := by decide +kernel
theorem dX2_momentOfNextBoat_18 : decode cX2_momentOfNextBoat 18 = .ok (.iload_n 1, 1) := by decide +kernel
theorem dX2_momentOfNextBoat_19 : decode cX2_momentOfNextBoat 19 = .ok (.if_icmp .le 25, 3) := by decide +kernel
theorem dX2_momentOfNextBoat_22 : decode cX2_momentOfNextBoat 22 = .ok (.iload_n 2, 1) := by decide +kernel
theorem dX2_momentOfNextBoat_23 : decode cX2_momentOfNextBoat 23 = .ok (.iconst (-1), 1) := by decide +kernel
