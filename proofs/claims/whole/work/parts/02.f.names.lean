theorem dX7_queues_109 : decode cX7_queues 109 = .ok (.goto (-42), 3) := by decide +kernel
theorem dX7_queues_112 : decode cX7_queues 112 = .ok (.aload_n 0, 1) := by decide +kernel
theorem dX7_queues_113 : decode cX7_queues 113 = .ok (.getfield 58, 3) := by decide +kernel
theorem dX7_queues_116 : decode cX7_queues 116 = .ok (.iload 5, 2) := by decide +kernel
theorem dX7_queues_118 : decode cX7_queues 118 = .ok (.iload 4, 2) := by decide +kernel
theorem dX7_queues_120 : decode cX7_queues 120 = .ok (.iastore, 1) := by decide +kernel
theorem dX7_queues_121 : decode cX7_queues 121 = .ok (.aload_n 0, 1) := by decide +kernel
theorem dX7_queues_122 : decode cX7_queues 122 = .ok (.dup, 1) := by decide +kernel
theorem dX7_queues_123 : decode cX7_queues 123 = .ok (.getfield 144, 3) := by decide +kernel
theorem dX7_queues_126 : decode cX7_queues 126 = .ok (.iconst 1, 1) := by decide +kernel
theorem dX7_queues_127 : decode cX7_queues 127 = .ok (.iadd, 1) := by decide +kernel
theorem dX7_queues_128 : decode cX7_queues 128 = .ok (.putfield 144, 3) := by decide +kernel
theorem dX7_queues_131 : decode cX7_queues 131 = .ok (.iinc 4 1, 3) := by decide +kernel
theorem dX7_queues_134 : decode cX7_queues 134 = .ok (.goto (-126), 3) := by decide +kernel
theorem dX7_queues_137 : decode cX7_queues 137 = .ok (.return_, 1) := by decide +kernel
theorem dX7_fits_0 : decode cX7_fits 0 = .ok (.iconst 0, 1) := by decide +kernel
theorem dX7_fits_1 : decode cX7_fits 1 = .ok (.istore_n 1, 1) := by decide +kernel
theorem dX7_fits_2 : decode cX7_fits 2 = .ok (.iconst 0, 1) := by decide +kernel
theorem dX7_fits_3 : decode cX7_fits 3 = .ok (.istore_n 2, 1) := by decide +kernel
theorem dX7_fits_4 : decode cX7_fits 4 = .ok (.iload_n 1, 1) := by decide +kernel
theorem dX7_fits_5 : decode cX7_fits 5 = .ok (.aload_n 0, 1) := by decide +kernel
theorem dX7_fits_6 : decode cX7_fits 6 = .ok (.getfield 144, 3) := by decide +kernel
theorem dX7_fits_9 : decode cX7_fits 9 = .ok (.if_icmp .ge 43, 3) := by decide +kernel
theorem dX7_fits_12 : decode cX7_fits 12 = .ok (.iload_n 2, 1) := by decide +kernel
theorem dX7_fits_13 : decode cX7_fits 13 = .ok (.aload_n 0, 1) := by decide +kernel
theorem dX7_fits_14 : decode cX7_fits 14 = .ok (.getfield 43, 3) := by decide +kernel
theorem dX7_fits_17 : decode cX7_fits 17 = .ok (.aload_n 0, 1) := by decide +kernel
theorem dX7_fits_18 : decode cX7_fits 18 = .ok (.getfield 58, 3) := by decide +kernel
theorem dX7_fits_21 : decode cX7_fits 21 = .ok (.iload_n 1, 1) := by decide +kernel
theorem dX7_fits_22 : decode cX7_fits 22 = .ok (.iaload, 1) := by decide +kernel
theorem dX7_fits_23 : decode cX7_fits 23 = .ok (.iaload, 1) := by decide +kernel
theorem dX7_fits_24 : decode cX7_fits 24 = .ok (.iadd, 1) := by decide +kernel
theorem dX7_fits_25 : decode cX7_fits 25 = .ok (.aload_n 0, 1) := by decide +kernel
theorem dX7_fits_26 : decode cX7_fits 26 = .ok (.getfield 13, 3) := by decide +kernel
theorem dX7_fits_29 : decode cX7_fits 29 = .ok (.if_icmp .gt 23, 3) := by decide +kernel
theorem dX7_fits_32 : decode cX7_fits 32 = .ok (.iload_n 2, 1) := by decide +kernel
theorem dX7_fits_33 : decode cX7_fits 33 = .ok (.aload_n 0, 1) := by decide +kernel
theorem dX7_fits_34 : decode cX7_fits 34 = .ok (.getfield 43, 3) := by decide +kernel
theorem dX7_fits_37 : decode cX7_fits 37 = .ok (.aload_n 0, 1) := by decide +kernel
theorem dX7_fits_38 : decode cX7_fits 38 = .ok (.getfield 58, 3) := by decide +kernel
theorem dX7_fits_41 : decode cX7_fits 41 = .ok (.iload_n 1, 1) := by decide +kernel
theorem dX7_fits_42 : decode cX7_fits 42 = .ok (.iaload, 1) := by decide +kernel
theorem dX7_fits_43 : decode cX7_fits 43 = .ok (.iaload, 1) := by decide +kernel
theorem dX7_fits_44 : decode cX7_fits 44 = .ok (.iadd, 1) := by decide +kernel
theorem dX7_fits_45 : decode cX7_fits 45 = .ok (.istore_n 2, 1) := by decide +kernel
theorem dX7_fits_46 : decode cX7_fits 46 = .ok (.iinc 1 1, 3) := by decide +kernel
theorem dX7_fits_49 : decode cX7_fits 49 = .ok (.goto (-45), 3) := by decide +kernel
theorem dX7_fits_52 : decode cX7_fits 52 = .ok (.iload_n 1, 1) := by decide +kernel
theorem dX7_fits_53 : decode cX7_fits 53 = .ok (.ireturn, 1) := by decide +kernel
set_option maxRecDepth 20000 in
theorem ggX7_queue_X7_isSide : GoodIn wsX7_queue wsX7_isSide := goodIn_r _ [6, 7, 8, 5, 9] (by decide +kernel) (by decide +kernel)
set_option maxRecDepth 20000 in
theorem gX7_queue_X7_isSide : GoodIn wsX7_queue (va_wsS RX7 114 yX7_isSide wsX7_isSide) := goodIn_app (goodIn_of _ (by decide +kernel)) ggX7_queue_X7_isSide
set_option maxRecDepth 20000 in
theorem ggX7_queue_X7_lies : GoodIn wsX7_queue wsX7_lies := goodIn_r _ [9] (by decide +kernel) (by decide +kernel)
set_option maxRecDepth 20000 in
theorem gX7_queue_X7_lies : GoodIn wsX7_queue (va_wsS RX7 95 yX7_lies wsX7_lies) := goodIn_app (goodIn_of _ (by decide +kernel)) ggX7_queue_X7_lies
set_option maxRecDepth 20000 in
theorem ggX7_queue_X7_queues : GoodIn wsX7_queue wsX7_queues := goodIn_r _ [13, 1, 14, 15, 16, 2, 17, 18, 19, 5, 20, 21, 22, 23, 24, 25, 26, 27, 28, 29, 30, 31, 32, 33, 34, 35, 36, 37, 38, 39, 40, 41, 42, 43, 44, 45, 46, 47, 48, 49, 50, 51, 52, 53, 54, 55, 56, 57, 58, 59, 60, 61, 62, 63, 64, 65, 66, 67, 68, 69, 70, 71, 72, 73, 74, 75, 76, 77, 78, 79, 80, 81, 82, 83, 84] (by decide +kernel) (by decide +kernel)
set_option maxRecDepth 20000 in
theorem gX7_queue_X7_queues : GoodIn wsX7_queue (wsV RX7 153 RX7 yX7_queues wsX7_queues) := goodIn_app (goodIn_of _ (by decide +kernel)) ggX7_queue_X7_queues
theorem dX7_queue_0 : decode cX7_queue 0 = .ok (.iload_n 1, 1) := by decide +kernel
theorem dX7_queue_1 : decode cX7_queue 1 = .ok (.invokestatic 114, 3) := by decide +kernel
theorem dX7_queue_4 : decode cX7_queue 4 = .ok (.ifCond .eq 14, 3) := by decide +kernel
theorem dX7_queue_7 : decode cX7_queue 7 = .ok (.iload_n 2, 1) := by decide +kernel
theorem dX7_queue_8 : decode cX7_queue 8 = .ok (.iconst 0, 1) := by decide +kernel
theorem dX7_queue_9 : decode cX7_queue 9 = .ok (.sipush 20000, 3) := by decide +kernel
theorem dX7_queue_12 : decode cX7_queue 12 = .ok (.invokestatic 95, 3) := by decide +kernel
theorem dX7_queue_15 : decode cX7_queue 15 = .ok (.ifCond .ne 5, 3) := by decide +kernel
theorem dX7_queue_18 : decode cX7_queue 18 = .ok (.iconst (-1), 1) := by decide +kernel
theorem dX7_queue_19 : decode cX7_queue 19 = .ok (.ireturn, 1) := by decide +kernel
theorem dX7_queue_20 : decode cX7_queue 20 = .ok (.aload_n 0, 1) := by decide +kernel
theorem dX7_queue_21 : decode cX7_queue 21 = .ok (.iload_n 1, 1) := by decide +kernel
theorem dX7_queue_22 : decode cX7_queue 22 = .ok (.iload_n 2, 1) := by decide +kernel
theorem dX7_queue_23 : decode cX7_queue 23 = .ok (.iconst 0, 1) := by decide +kernel
theorem dX7_queue_24 : decode cX7_queue 24 = .ok (.invokevirtual 153, 3) := by decide +kernel
theorem dX7_queue_27 : decode cX7_queue 27 = .ok (.iload_n 3, 1) := by decide +kernel
theorem dX7_queue_28 : decode cX7_queue 28 = .ok (.iconst 0, 1) := by decide +kernel
theorem dX7_queue_29 : decode cX7_queue 29 = .ok (.aload_n 0, 1) := by decide +kernel
theorem dX7_queue_30 : decode cX7_queue 30 = .ok (.getfield 144, 3) := by decide +kernel
theorem dX7_queue_33 : decode cX7_queue 33 = .ok (.iconst 1, 1) := by decide +kernel
theorem dX7_queue_34 : decode cX7_queue 34 = .ok (.isub, 1) := by decide +kernel
theorem dX7_queue_35 : decode cX7_queue 35 = .ok (.invokestatic 95, 3) := by decide +kernel
theorem dX7_queue_38 : decode cX7_queue 38 = .ok (.ifCond .eq 12, 3) := by decide +kernel
theorem dX7_queue_41 : decode cX7_queue 41 = .ok (.aload_n 0, 1) := by decide +kernel
theorem dX7_queue_42 : decode cX7_queue 42 = .ok (.getfield 58, 3) := by decide +kernel
theorem dX7_queue_45 : decode cX7_queue 45 = .ok (.iload_n 3, 1) := by decide +kernel
theorem dX7_queue_46 : decode cX7_queue 46 = .ok (.iaload, 1) := by decide +kernel
theorem dX7_queue_47 : decode cX7_queue 47 = .ok (.goto 4, 3) := by decide +kernel
theorem dX7_queue_50 : decode cX7_queue 50 = .ok (.iconst (-1), 1) := by decide +kernel
theorem dX7_queue_51 : decode cX7_queue 51 = .ok (.ireturn, 1) := by decide +kernel
set_option maxRecDepth 20000 in
theorem ggX7_fitting_X7_lies : GoodIn wsX7_fitting wsX7_lies := goodIn_r _ [5] (by decide +kernel) (by decide +kernel)
set_option maxRecDepth 20000 in
theorem gX7_fitting_X7_lies : GoodIn wsX7_fitting (va_wsS RX7 95 yX7_lies wsX7_lies) := goodIn_app (goodIn_of _ (by decide +kernel)) ggX7_fitting_X7_lies
set_option maxRecDepth 20000 in
theorem ggX7_fitting_X7_queues : GoodIn wsX7_fitting wsX7_queues := goodIn_r _ [9, 10, 11, 12, 13, 14, 15, 16, 17, 4, 18, 19, 20, 21, 22, 23, 24, 25, 26, 27, 28, 29, 30, 31, 32, 33, 34, 35, 36, 37, 38, 39, 40, 41, 42, 43, 44, 45, 46, 51, 52, 53, 54, 55, 56, 57, 58, 59, 60, 61, 62, 63, 64, 65, 66, 67, 68, 69, 70, 71, 72, 73, 74, 75, 76, 77, 78, 79, 80, 81, 82, 83, 84, 85, 86] (by decide +kernel) (by decide +kernel)
set_option maxRecDepth 20000 in
theorem gX7_fitting_X7_queues : GoodIn wsX7_fitting (wsV RX7 153 RX7 yX7_queues wsX7_queues) := goodIn_app (goodIn_of _ (by decide +kernel)) ggX7_fitting_X7_queues
set_option maxRecDepth 20000 in
theorem ggX7_fitting_X7_fits : GoodIn wsX7_fitting wsX7_fits := goodIn_r _ [50, 10, 24, 14, 25, 51, 52, 53, 54, 55, 56, 57, 58, 59, 60, 61, 62, 63, 64, 65, 66, 67, 68, 69, 70, 71, 72, 73, 74, 75, 76, 77, 78, 79, 80, 81, 82, 83, 84, 85, 86] (by decide +kernel) (by decide +kernel)
set_option maxRecDepth 20000 in
theorem gX7_fitting_X7_fits : GoodIn wsX7_fitting (wsV RX7 160 RX7 yX7_fits wsX7_fits) := goodIn_app (goodIn_of _ (by decide +kernel)) ggX7_fitting_X7_fits
theorem dX7_fitting_0 : decode cX7_fitting 0 = .ok (.iload_n 1, 1) := by decide +kernel
theorem dX7_fitting_1 : decode cX7_fitting 1 = .ok (.iconst 0, 1) := by decide +kernel
theorem dX7_fitting_2 : decode cX7_fitting 2 = .ok (.sipush 20000, 3) := by decide +kernel
theorem dX7_fitting_5 : decode cX7_fitting 5 = .ok (.invokestatic 95, 3) := by decide +kernel
theorem dX7_fitting_8 : decode cX7_fitting 8 = .ok (.ifCond .ne 5, 3) := by decide +kernel
theorem dX7_fitting_11 : decode cX7_fitting 11 = .ok (.iconst (-1), 1) := by decide +kernel
theorem dX7_fitting_12 : decode cX7_fitting 12 = .ok (.ireturn, 1) := by decide +kernel
theorem dX7_fitting_13 : decode cX7_fitting 13 = .ok (.aload_n 0, 1) := by decide +kernel
theorem dX7_fitting_14 : decode cX7_fitting 14 = .ok (.aload_n 0, 1) := by decide +kernel
theorem dX7_fitting_15 : decode cX7_fitting 15 = .ok (.getfield 157, 3) := by decide +kernel
theorem dX7_fitting_18 : decode cX7_fitting 18 = .ok (.iload_n 1, 1) := by decide +kernel
theorem dX7_fitting_19 : decode cX7_fitting 19 = .ok (.iconst 0, 1) := by decide +kernel
theorem dX7_fitting_20 : decode cX7_fitting 20 = .ok (.invokevirtual 153, 3) := by decide +kernel
theorem dX7_fitting_23 : decode cX7_fitting 23 = .ok (.aload_n 0, 1) := by decide +kernel
theorem dX7_fitting_24 : decode cX7_fitting 24 = .ok (.invokevirtual 160, 3) := by decide +kernel
theorem dX7_fitting_27 : decode cX7_fitting 27 = .ok (.ireturn, 1) := by decide +kernel
set_option maxRecDepth 20000 in
theorem ggX7_ride_X7_lies : GoodIn wsX7_ride wsX7_lies := goodIn_r _ [13] (by decide +kernel) (by decide +kernel)
set_option maxRecDepth 20000 in
theorem gX7_ride_X7_lies : GoodIn wsX7_ride (va_wsS RX7 95 yX7_lies wsX7_lies) := goodIn_app (goodIn_of _ (by decide +kernel)) ggX7_ride_X7_lies
set_option maxRecDepth 20000 in
theorem ggX7_ride_X7_lasts : GoodIn wsX7_ride wsX7_lasts := goodIn_r _ [17, 3, 18, 19, 20, 12, 21, 22, 23, 24, 66, 67, 68, 69, 70, 71, 72, 73, 74, 75, 76, 77, 78, 79, 80, 81, 82, 83, 84, 85, 86, 87, 88, 89, 90, 91, 92, 93, 94, 95, 96, 97, 98, 99, 100, 101] (by decide +kernel) (by decide +kernel)
set_option maxRecDepth 20000 in
theorem gX7_ride_X7_lasts : GoodIn wsX7_ride (wsV RX7 170 RX7 yX7_lasts wsX7_lasts) := goodIn_app (goodIn_of _ (by decide +kernel)) ggX7_ride_X7_lasts
set_option maxRecDepth 20000 in
theorem ggX7_ride_X7_queues : GoodIn wsX7_ride wsX7_queues := goodIn_r _ [28, 29, 30, 31, 32, 6, 33, 34, 35, 12, 36, 7, 37, 38, 39, 40, 41, 42, 43, 3, 44, 45, 46, 47, 48, 49, 50, 51, 52, 8, 53, 54, 55, 56, 57, 58, 59, 60, 61, 66, 67, 68, 69, 70, 71, 72, 73, 74, 75, 76, 77, 78, 79, 80, 81, 82, 83, 84, 85, 86, 87, 88, 89, 90, 91, 92, 93, 94, 95, 96, 97, 98, 99, 100, 101] (by decide +kernel) (by decide +kernel)
set_option maxRecDepth 20000 in
theorem gX7_ride_X7_queues : GoodIn wsX7_ride (wsV RX7 153 RX7 yX7_queues wsX7_queues) := goodIn_app (goodIn_of _ (by decide +kernel)) ggX7_ride_X7_queues
set_option maxRecDepth 20000 in
theorem ggX7_ride_X7_fits : GoodIn wsX7_ride wsX7_fits := goodIn_r _ [65, 29, 41, 6, 42, 66, 67, 68, 69, 70, 71, 72, 73, 74, 75, 76, 77, 78, 79, 80, 81, 82, 83, 84, 85, 86, 87, 88, 89, 90, 91, 92, 93, 94, 95, 96, 97, 98, 99, 100, 101] (by decide +kernel) (by decide +kernel)
set_option maxRecDepth 20000 in
theorem gX7_ride_X7_fits : GoodIn wsX7_ride (wsV RX7 160 RX7 yX7_fits wsX7_fits) := goodIn_app (goodIn_of _ (by decide +kernel)) ggX7_ride_X7_fits
theorem dX7_ride_0 : decode cX7_ride 0 = .ok (.iload_n 1, 1) := by decide +kernel
theorem dX7_ride_1 : decode cX7_ride 1 = .ok (.aload_n 0, 1) := by decide +kernel
theorem dX7_ride_2 : decode cX7_ride 2 = .ok (.getfield 164, 3) := by decide +kernel
theorem dX7_ride_5 : decode cX7_ride 5 = .ok (.sipush 20000, 3) := by decide +kernel
theorem dX7_ride_8 : decode cX7_ride 8 = .ok (.invokestatic 95, 3) := by decide +kernel
theorem dX7_ride_11 : decode cX7_ride 11 = .ok (.ifCond .eq 33, 3) := by decide +kernel
theorem dX7_ride_14 : decode cX7_ride 14 = .ok (.iload_n 2, 1) := by decide +kernel
theorem dX7_ride_15 : decode cX7_ride 15 = .ok (.ifCond .lt 29, 3) := by decide +kernel
theorem dX7_ride_18 : decode cX7_ride 18 = .ok (.aload_n 0, 1) := by decide +kernel
theorem dX7_ride_19 : decode cX7_ride 19 = .ok (.getfield 167, 3) := by decide +kernel
theorem dX7_ride_22 : decode cX7_ride 22 = .ok (.aload_n 0, 1) := by decide +kernel
theorem dX7_ride_23 : decode cX7_ride 23 = .ok (.getfield 17, 3) := by decide +kernel
theorem dX7_ride_26 : decode cX7_ride 26 = .ok (.iconst 4, 1) := by decide +kernel
theorem dX7_ride_27 : decode cX7_ride 27 = .ok (.iaload, 1) := by decide +kernel
theorem dX7_ride_28 : decode cX7_ride 28 = .ok (.if_icmp .ge 16, 3) := by decide +kernel
theorem dX7_ride_31 : decode cX7_ride 31 = .ok (.iload_n 1, 1) := by decide +kernel
theorem dX7_ride_32 : decode cX7_ride 32 = .ok (.aload_n 0, 1) := by decide +kernel
theorem dX7_ride_33 : decode cX7_ride 33 = .ok (.iload_n 1, 1) := by decide +kernel
theorem dX7_ride_34 : decode cX7_ride 34 = .ok (.invokevirtual 170, 3) := by decide +kernel
theorem dX7_ride_37 : decode cX7_ride 37 = .ok (.iadd, 1) := by decide +kernel
theorem dX7_ride_38 : decode cX7_ride 38 = .ok (.sipush 20000, 3) := by decide +kernel
theorem dX7_ride_41 : decode cX7_ride 41 = .ok (.if_icmp .le 5, 3) := by decide +kernel
theorem dX7_ride_44 : decode cX7_ride 44 = .ok (.iconst (-1), 1) := by decide +kernel
theorem dX7_ride_45 : decode cX7_ride 45 = .ok (.ireturn, 1) := by decide +kernel
theorem dX7_ride_46 : decode cX7_ride 46 = .ok (.aload_n 0, 1) := by decide +kernel
theorem dX7_ride_47 : decode cX7_ride 47 = .ok (.aload_n 0, 1) := by decide +kernel
theorem dX7_ride_48 : decode cX7_ride 48 = .ok (.getfield 157, 3) := by decide +kernel
theorem dX7_ride_51 : decode cX7_ride 51 = .ok (.iload_n 1, 1) := by decide +kernel
theorem dX7_ride_52 : decode cX7_ride 52 = .ok (.iconst 0, 1) := by decide +kernel
theorem dX7_ride_53 : decode cX7_ride 53 = .ok (.invokevirtual 153, 3) := by decide +kernel
theorem dX7_ride_56 : decode cX7_ride 56 = .ok (.iload_n 2, 1) := by decide +kernel
theorem dX7_ride_57 : decode cX7_ride 57 = .ok (.aload_n 0, 1) := by decide +kernel
theorem dX7_ride_58 : decode cX7_ride 58 = .ok (.invokevirtual 160, 3) := by decide +kernel
theorem dX7_ride_61 : decode cX7_ride 61 = .ok (.if_icmp .le 5, 3) := by decide +kernel
theorem dX7_ride_64 : decode cX7_ride 64 = .ok (.iconst (-1), 1) := by decide +kernel
theorem dX7_ride_65 : decode cX7_ride 65 = .ok (.ireturn, 1) := by decide +kernel
theorem dX7_ride_66 : decode cX7_ride 66 = .ok (.aload_n 0, 1) := by decide +kernel
theorem dX7_ride_67 : decode cX7_ride 67 = .ok (.getfield 167, 3) := by decide +kernel
theorem dX7_ride_70 : decode cX7_ride 70 = .ok (.i2l, 1) := by decide +kernel
theorem dX7_ride_71 : decode cX7_ride 71 = .ok (.lstore_n 3, 1) := by decide +kernel
theorem dX7_ride_72 : decode cX7_ride 72 = .ok (.iconst 0, 1) := by decide +kernel
theorem dX7_ride_73 : decode cX7_ride 73 = .ok (.istore 5, 2) := by decide +kernel
theorem dX7_ride_75 : decode cX7_ride 75 = .ok (.iload 5, 2) := by decide +kernel
theorem dX7_ride_77 : decode cX7_ride 77 = .ok (.iload_n 2, 1) := by decide +kernel
theorem dX7_ride_78 : decode cX7_ride 78 = .ok (.if_icmp .ge 62, 3) := by decide +kernel
theorem dX7_ride_81 : decode cX7_ride 81 = .ok (.lload_n 3, 1) := by decide +kernel
theorem dX7_ride_82 : decode cX7_ride 82 = .ok (.aload_n 0, 1) := by decide +kernel
theorem dX7_ride_83 : decode cX7_ride 83 = .ok (.getfield 157, 3) := by decide +kernel
theorem dX7_ride_86 : decode cX7_ride 86 = .ok (.ifCond .ne 19, 3) := by decide +kernel
theorem dX7_ride_89 : decode cX7_ride 89 = .ok (.aload_n 0, 1) := by decide +kernel
theorem dX7_ride_90 : decode cX7_ride 90 = .ok (.getfield 49, 3) := by decide +kernel
theorem dX7_ride_93 : decode cX7_ride 93 = .ok (.aload_n 0, 1) := by decide +kernel
theorem dX7_ride_94 : decode cX7_ride 94 = .ok (.getfield 58, 3) := by decide +kernel
theorem dX7_ride_97 : decode cX7_ride 97 = .ok (.iload 5, 2) := by decide +kernel
theorem dX7_ride_99 : decode cX7_ride 99 = .ok (.iaload, 1) := by decide +kernel
theorem dX7_ride_100 : decode cX7_ride 100 = .ok (.iaload, 1) := by decide +kernel
theorem dX7_ride_101 : decode cX7_ride 101 = .ok (.i2l, 1) := by decide +kernel
theorem dX7_ride_102 : decode cX7_ride 102 = .ok (.goto 17, 3) := by decide +kernel
theorem dX7_ride_105 : decode cX7_ride 105 = .ok (.aload_n 0, 1) := by decide +kernel
theorem dX7_ride_106 : decode cX7_ride 106 = .ok (.getfield 49, 3) := by decide +kernel
theorem dX7_ride_109 : decode cX7_ride 109 = .ok (.aload_n 0, 1) := by decide +kernel
theorem dX7_ride_110 : decode cX7_ride 110 = .ok (.getfield 58, 3) := by decide +kernel
theorem dX7_ride_113 : decode cX7_ride 113 = .ok (.iload 5, 2) := by decide +kernel
theorem dX7_ride_115 : decode cX7_ride 115 = .ok (.iaload, 1) := by decide +kernel
theorem dX7_ride_116 : decode cX7_ride 116 = .ok (.iaload, 1) := by decide +kernel
theorem dX7_ride_117 : decode cX7_ride 117 = .ok (.ineg, 1) := by decide +kernel
theorem dX7_ride_118 : decode cX7_ride 118 = .ok (.i2l, 1) := by decide +kernel
theorem dX7_ride_119 : decode cX7_ride 119 = .ok (.ladd, 1) := by decide +kernel
theorem dX7_ride_120 : decode cX7_ride 120 = .ok (.lstore_n 3, 1) := by decide +kernel
theorem dX7_ride_121 : decode cX7_ride 121 = .ok (.aload_n 0, 1) := by decide +kernel
theorem dX7_ride_122 : decode cX7_ride 122 = .ok (.getfield 55, 3) := by decide +kernel
theorem dX7_ride_125 : decode cX7_ride 125 = .ok (.aload_n 0, 1) := by decide +kernel
theorem dX7_ride_126 : decode cX7_ride 126 = .ok (.getfield 58, 3) := by decide +kernel
theorem dX7_ride_129 : decode cX7_ride 129 = .ok (.iload 5, 2) := by decide +kernel
theorem dX7_ride_131 : decode cX7_ride 131 = .ok (.iaload, 1) := by decide +kernel
theorem dX7_ride_132 : decode cX7_ride 132 = .ok (.iload_n 1, 1) := by decide +kernel
theorem dX7_ride_133 : decode cX7_ride 133 = .ok (.iastore, 1) := by decide +kernel
theorem dX7_ride_134 : decode cX7_ride 134 = .ok (.iinc 5 1, 3) := by decide +kernel
theorem dX7_ride_137 : decode cX7_ride 137 = .ok (.goto (-62), 3) := by decide +kernel
theorem dX7_ride_140 : decode cX7_ride 140 = .ok (.aload_n 0, 1) := by decide +kernel
theorem dX7_ride_141 : decode cX7_ride 141 = .ok (.getfield 27, 3) := by decide +kernel
theorem dX7_ride_144 : decode cX7_ride 144 = .ok (.iconst 1, 1) := by decide +kernel
theorem dX7_ride_145 : decode cX7_ride 145 = .ok (.dup2, 1) := by decide +kernel
theorem dX7_ride_146 : decode cX7_ride 146 = .ok (.laload, 1) := by decide +kernel
theorem dX7_ride_147 : decode cX7_ride 147 = .ok (.lload_n 3, 1) := by decide +kernel
theorem dX7_ride_148 : decode cX7_ride 148 = .ok (.lsub, 1) := by decide +kernel
theorem dX7_ride_149 : decode cX7_ride 149 = .ok (.lastore, 1) := by decide +kernel
theorem dX7_ride_150 : decode cX7_ride 150 = .ok (.aload_n 0, 1) := by decide +kernel
theorem dX7_ride_151 : decode cX7_ride 151 = .ok (.getfield 27, 3) := by decide +kernel
theorem dX7_ride_154 : decode cX7_ride 154 = .ok (.iconst 0, 1) := by decide +kernel
theorem dX7_ride_155 : decode cX7_ride 155 = .ok (.dup2, 1) := by decide +kernel
theorem dX7_ride_156 : decode cX7_ride 156 = .ok (.laload, 1) := by decide +kernel
theorem dX7_ride_157 : decode cX7_ride 157 = .ok (.lload_n 3, 1) := by decide +kernel
theorem dX7_ride_158 : decode cX7_ride 158 = .ok (.ladd, 1) := by decide +kernel
theorem dX7_ride_159 : decode cX7_ride 159 = .ok (.lastore, 1) := by decide +kernel
theorem dX7_ride_160 : decode cX7_ride 160 = .ok (.aload_n 0, 1) := by decide +kernel
theorem dX7_ride_161 : decode cX7_ride 161 = .ok (.dup, 1) := by decide +kernel
theorem dX7_ride_162 : decode cX7_ride 162 = .ok (.getfield 167, 3) := by decide +kernel
theorem dX7_ride_165 : decode cX7_ride 165 = .ok (.iconst 1, 1) := by decide +kernel
theorem dX7_ride_166 : decode cX7_ride 166 = .ok (.iadd, 1) := by decide +kernel
theorem dX7_ride_167 : decode cX7_ride 167 = .ok (.putfield 167, 3) := by decide +kernel
theorem dX7_ride_170 : decode cX7_ride 170 = .ok (.aload_n 0, 1) := by decide +kernel
theorem dX7_ride_171 : decode cX7_ride 171 = .ok (.dup, 1) := by decide +kernel
theorem dX7_ride_172 : decode cX7_ride 172 = .ok (.getfield 173, 3) := by decide +kernel
theorem dX7_ride_175 : decode cX7_ride 175 = .ok (.iconst 1, 1) := by decide +kernel
theorem dX7_ride_176 : decode cX7_ride 176 = .ok (.iadd, 1) := by decide +kernel
theorem dX7_ride_177 : decode cX7_ride 177 = .ok (.putfield 173, 3) := by decide +kernel
theorem dX7_ride_180 : decode cX7_ride 180 = .ok (.aload_n 0, 1) := by decide +kernel
theorem dX7_ride_181 : decode cX7_ride 181 = .ok (.iconst 1, 1) := by decide +kernel
theorem dX7_ride_182 : decode cX7_ride 182 = .ok (.aload_n 0, 1) := by decide +kernel
theorem dX7_ride_183 : decode cX7_ride 183 = .ok (.getfield 157, 3) := by decide +kernel
theorem dX7_ride_186 : decode cX7_ride 186 = .ok (.isub, 1) := by decide +kernel
theorem dX7_ride_187 : decode cX7_ride 187 = .ok (.putfield 157, 3) := by decide +kernel
theorem dX7_ride_190 : decode cX7_ride 190 = .ok (.aload_n 0, 1) := by decide +kernel
theorem dX7_ride_191 : decode cX7_ride 191 = .ok (.iload_n 1, 1) := by decide +kernel
theorem dX7_ride_192 : decode cX7_ride 192 = .ok (.aload_n 0, 1) := by decide +kernel
theorem dX7_ride_193 : decode cX7_ride 193 = .ok (.iload_n 1, 1) := by decide +kernel
theorem dX7_ride_194 : decode cX7_ride 194 = .ok (.invokevirtual 170, 3) := by decide +kernel
theorem dX7_ride_197 : decode cX7_ride 197 = .ok (.iadd, 1) := by decide +kernel
theorem dX7_ride_198 : decode cX7_ride 198 = .ok (.putfield 164, 3) := by decide +kernel
theorem dX7_ride_201 : decode cX7_ride 201 = .ok (.aload_n 0, 1) := by decide +kernel
theorem dX7_ride_202 : decode cX7_ride 202 = .ok (.getfield 164, 3) := by decide +kernel
theorem dX7_ride_205 : decode cX7_ride 205 = .ok (.ireturn, 1) := by decide +kernel
set_option maxRecDepth 20000 in
theorem ggX7_renew_X7_lies : GoodIn wsX7_renew wsX7_lies := goodIn_r _ [7] (by decide +kernel) (by decide +kernel)
set_option maxRecDepth 20000 in
theorem gX7_renew_X7_lies : GoodIn wsX7_renew (va_wsS RX7 95 yX7_lies wsX7_lies) := goodIn_app (goodIn_of _ (by decide +kernel)) ggX7_renew_X7_lies
theorem dX7_renew_0 : decode cX7_renew 0 = .ok (.iload_n 1, 1) := by decide +kernel
theorem dX7_renew_1 : decode cX7_renew 1 = .ok (.aload_n 0, 1) := by decide +kernel
theorem dX7_renew_2 : decode cX7_renew 2 = .ok (.getfield 164, 3) := by decide +kernel
theorem dX7_renew_5 : decode cX7_renew 5 = .ok (.sipush 20000, 3) := by decide +kernel
theorem dX7_renew_8 : decode cX7_renew 8 = .ok (.invokestatic 95, 3) := by decide +kernel
theorem dX7_renew_11 : decode cX7_renew 11 = .ok (.ifCond .eq 17, 3) := by decide +kernel
theorem dX7_renew_14 : decode cX7_renew 14 = .ok (.iload_n 1, 1) := by decide +kernel
theorem dX7_renew_15 : decode cX7_renew 15 = .ok (.aload_n 0, 1) := by decide +kernel
theorem dX7_renew_16 : decode cX7_renew 16 = .ok (.getfield 17, 3) := by decide +kernel
theorem dX7_renew_19 : decode cX7_renew 19 = .ok (.iconst 5, 1) := by decide +kernel
theorem dX7_renew_20 : decode cX7_renew 20 = .ok (.iaload, 1) := by decide +kernel
theorem dX7_renew_21 : decode cX7_renew 21 = .ok (.iadd, 1) := by decide +kernel
theorem dX7_renew_22 : decode cX7_renew 22 = .ok (.sipush 20000, 3) := by decide +kernel
theorem dX7_renew_25 : decode cX7_renew 25 = .ok (.if_icmp .le 5, 3) := by decide +kernel
theorem dX7_renew_28 : decode cX7_renew 28 = .ok (.iconst (-1), 1) := by decide +kernel
theorem dX7_renew_29 : decode cX7_renew 29 = .ok (.ireturn, 1) := by decide +kernel
theorem dX7_renew_30 : decode cX7_renew 30 = .ok (.aload_n 0, 1) := by decide +kernel
theorem dX7_renew_31 : decode cX7_renew 31 = .ok (.iload_n 1, 1) := by decide +kernel
theorem dX7_renew_32 : decode cX7_renew 32 = .ok (.aload_n 0, 1) := by decide +kernel
theorem dX7_renew_33 : decode cX7_renew 33 = .ok (.getfield 17, 3) := by decide +kernel
theorem dX7_renew_36 : decode cX7_renew 36 = .ok (.iconst 5, 1) := by decide +kernel
theorem dX7_renew_37 : decode cX7_renew 37 = .ok (.iaload, 1) := by decide +kernel
theorem dX7_renew_38 : decode cX7_renew 38 = .ok (.iadd, 1) := by decide +kernel
theorem dX7_renew_39 : decode cX7_renew 39 = .ok (.putfield 164, 3) := by decide +kernel
theorem dX7_renew_42 : decode cX7_renew 42 = .ok (.aload_n 0, 1) := by decide +kernel
theorem dX7_renew_43 : decode cX7_renew 43 = .ok (.iconst 0, 1) := by decide +kernel
theorem dX7_renew_44 : decode cX7_renew 44 = .ok (.putfield 167, 3) := by decide +kernel
theorem dX7_renew_47 : decode cX7_renew 47 = .ok (.aload_n 0, 1) := by decide +kernel
theorem dX7_renew_48 : decode cX7_renew 48 = .ok (.getfield 164, 3) := by decide +kernel
theorem dX7_renew_51 : decode cX7_renew 51 = .ok (.ireturn, 1) := by decide +kernel
theorem dX7_boatsOf_0 : decode cX7_boatsOf 0 = .ok (.iconst 0, 1) := by decide +kernel
theorem dX7_boatsOf_1 : decode cX7_boatsOf 1 = .ok (.istore_n 2, 1) := by decide +kernel
theorem dX7_boatsOf_2 : decode cX7_boatsOf 2 = .ok (.iconst 0, 1) := by decide +kernel
theorem dX7_boatsOf_3 : decode cX7_boatsOf 3 = .ok (.istore_n 3, 1) := by decide +kernel
theorem dX7_boatsOf_4 : decode cX7_boatsOf 4 = .ok (.iload_n 3, 1) := by decide +kernel
theorem dX7_boatsOf_5 : decode cX7_boatsOf 5 = .ok (.aload_n 0, 1) := by decide +kernel
theorem dX7_boatsOf_6 : decode cX7_boatsOf 6 = .ok (.getfield 176, 3) := by decide +kernel
theorem dX7_boatsOf_9 : decode cX7_boatsOf 9 = .ok (.if_icmp .ge 24, 3) := by decide +kernel
theorem dX7_boatsOf_12 : decode cX7_boatsOf 12 = .ok (.iload_n 2, 1) := by decide +kernel
theorem dX7_boatsOf_13 : decode cX7_boatsOf 13 = .ok (.iload_n 1, 1) := by decide +kernel
theorem dX7_boatsOf_14 : decode cX7_boatsOf 14 = .ok (.iload_n 3, 1) := by decide +kernel
theorem dX7_boatsOf_15 : decode cX7_boatsOf 15 = .ok (.ishr, 1) := by decide +kernel
theorem dX7_boatsOf_16 : decode cX7_boatsOf 16 = .ok (.iconst 1, 1) := by decide +kernel
theorem dX7_boatsOf_17 : decode cX7_boatsOf 17 = .ok (.iand, 1) := by decide +kernel
theorem dX7_boatsOf_18 : decode cX7_boatsOf 18 = .ok (.aload_n 0, 1) := by decide +kernel
theorem dX7_boatsOf_19 : decode cX7_boatsOf 19 = .ok (.getfield 81, 3) := by decide +kernel
theorem dX7_boatsOf_22 : decode cX7_boatsOf 22 = .ok (.iload_n 3, 1) := by decide +kernel
theorem dX7_boatsOf_23 : decode cX7_boatsOf 23 = .ok (.iaload, 1) := by decide +kernel
theorem dX7_boatsOf_24 : decode cX7_boatsOf 24 = .ok (.ishl, 1) := by decide +kernel
theorem dX7_boatsOf_25 : decode cX7_boatsOf 25 = .ok (.ior, 1) := by decide +kernel
theorem dX7_boatsOf_26 : decode cX7_boatsOf 26 = .ok (.istore_n 2, 1) := by decide +kernel
theorem dX7_boatsOf_27 : decode cX7_boatsOf 27 = .ok (.iinc 3 1, 3) := by decide +kernel
theorem dX7_boatsOf_30 : decode cX7_boatsOf 30 = .ok (.goto (-26), 3) := by decide +kernel
theorem dX7_boatsOf_33 : decode cX7_boatsOf 33 = .ok (.iload_n 2, 1) := by decide +kernel
theorem dX7_boatsOf_34 : decode cX7_boatsOf 34 = .ok (.ireturn, 1) := by decide +kernel
theorem dX7_keeps_0 : decode cX7_keeps 0 = .ok (.sipush 256, 3) := by decide +kernel
theorem dX7_keeps_3 : decode cX7_keeps 3 = .ok (.iload_n 1, 1) := by decide +kernel
theorem dX7_keeps_4 : decode cX7_keeps 4 = .ok (.imul, 1) := by decide +kernel
theorem dX7_keeps_5 : decode cX7_keeps 5 = .ok (.iconst 4, 1) := by decide +kernel
theorem dX7_keeps_6 : decode cX7_keeps 6 = .ok (.iload_n 2, 1) := by decide +kernel
theorem dX7_keeps_7 : decode cX7_keeps 7 = .ok (.imul, 1) := by decide +kernel
theorem dX7_keeps_8 : decode cX7_keeps 8 = .ok (.iadd, 1) := by decide +kernel
theorem dX7_keeps_9 : decode cX7_keeps 9 = .ok (.iconst 2, 1) := by decide +kernel
theorem dX7_keeps_10 : decode cX7_keeps 10 = .ok (.iload_n 3, 1) := by decide +kernel
theorem dX7_keeps_11 : decode cX7_keeps 11 = .ok (.imul, 1) := by decide +kernel
theorem dX7_keeps_12 : decode cX7_keeps 12 = .ok (.iadd, 1) := by decide +kernel
theorem dX7_keeps_13 : decode cX7_keeps 13 = .ok (.iload 4, 2) := by decide +kernel
theorem dX7_keeps_15 : decode cX7_keeps 15 = .ok (.iadd, 1) := by decide +kernel
theorem dX7_keeps_16 : decode cX7_keeps 16 = .ok (.istore 6, 2) := by decide +kernel
theorem dX7_keeps_18 : decode cX7_keeps 18 = .ok (.iload 6, 2) := by decide +kernel
theorem dX7_keeps_20 : decode cX7_keeps 20 = .ok (.iload 6, 2) := by decide +kernel
theorem dX7_keeps_22 : decode cX7_keeps 22 = .ok (.bipush 9, 2) := by decide +kernel
theorem dX7_keeps_24 : decode cX7_keeps 24 = .ok (.iushr, 1) := by decide +kernel
theorem dX7_keeps_25 : decode cX7_keeps 25 = .ok (.ixor, 1) := by decide +kernel
theorem dX7_keeps_26 : decode cX7_keeps 26 = .ok (.ldc 179, 2) := by decide +kernel
theorem dX7_keeps_28 : decode cX7_keeps 28 = .ok (.iand, 1) := by decide +kernel
theorem dX7_keeps_29 : decode cX7_keeps 29 = .ok (.istore 7, 2) := by decide +kernel
theorem dX7_keeps_31 : decode cX7_keeps 31 = .ok (.aload_n 0, 1) := by decide +kernel
theorem dX7_keeps_32 : decode cX7_keeps 32 = .ok (.getfield 65, 3) := by decide +kernel
theorem dX7_keeps_35 : decode cX7_keeps 35 = .ok (.iload 7, 2) := by decide +kernel
theorem dX7_keeps_37 : decode cX7_keeps 37 = .ok (.iaload, 1) := by decide +kernel
theorem dX7_keeps_38 : decode cX7_keeps 38 = .ok (.aload_n 0, 1) := by decide +kernel
theorem dX7_keeps_39 : decode cX7_keeps 39 = .ok (.getfield 180, 3) := by decide +kernel
theorem dX7_keeps_42 : decode cX7_keeps 42 = .ok (.if_icmp .ne 32, 3) := by decide +kernel
theorem dX7_keeps_45 : decode cX7_keeps 45 = .ok (.aload_n 0, 1) := by decide +kernel
theorem dX7_keeps_46 : decode cX7_keeps 46 = .ok (.getfield 68, 3) := by decide +kernel
theorem dX7_keeps_49 : decode cX7_keeps 49 = .ok (.aload_n 0, 1) := by decide +kernel
theorem dX7_keeps_50 : decode cX7_keeps 50 = .ok (.getfield 62, 3) := by decide +kernel
theorem dX7_keeps_53 : decode cX7_keeps 53 = .ok (.iload 7, 2) := by decide +kernel
theorem dX7_keeps_55 : decode cX7_keeps 55 = .ok (.iaload, 1) := by decide +kernel
theorem dX7_keeps_56 : decode cX7_keeps 56 = .ok (.iaload, 1) := by decide +kernel
theorem dX7_keeps_57 : decode cX7_keeps 57 = .ok (.iload 6, 2) := by decide +kernel
theorem dX7_keeps_59 : decode cX7_keeps 59 = .ok (.if_icmp .eq 15, 3) := by decide +kernel
theorem dX7_keeps_62 : decode cX7_keeps 62 = .ok (.iload 7, 2) := by decide +kernel
theorem dX7_keeps_64 : decode cX7_keeps 64 = .ok (.iconst 1, 1) := by decide +kernel
theorem dX7_keeps_65 : decode cX7_keeps 65 = .ok (.iadd, 1) := by decide +kernel
theorem dX7_keeps_66 : decode cX7_keeps 66 = .ok (.ldc 179, 2) := by decide +kernel
theorem dX7_keeps_68 : decode cX7_keeps 68 = .ok (.iand, 1) := by decide +kernel
theorem dX7_keeps_69 : decode cX7_keeps 69 = .ok (.istore 7, 2) := by decide +kernel
theorem dX7_keeps_71 : decode cX7_keeps 71 = .ok (.goto (-40), 3) := by decide +kernel
theorem dX7_keeps_74 : decode cX7_keeps 74 = .ok (.aload_n 0, 1) := by decide +kernel
theorem dX7_keeps_75 : decode cX7_keeps 75 = .ok (.getfield 65, 3) := by decide +kernel
theorem dX7_keeps_78 : decode cX7_keeps 78 = .ok (.iload 7, 2) := by decide +kernel
theorem dX7_keeps_80 : decode cX7_keeps 80 = .ok (.iaload, 1) := by decide +kernel
theorem dX7_keeps_81 : decode cX7_keeps 81 = .ok (.aload_n 0, 1) := by decide +kernel
theorem dX7_keeps_82 : decode cX7_keeps 82 = .ok (.getfield 180, 3) := by decide +kernel
theorem dX7_keeps_85 : decode cX7_keeps 85 = .ok (.if_icmp .ne 44, 3) := by decide +kernel
theorem dX7_keeps_88 : decode cX7_keeps 88 = .ok (.aload_n 0, 1) := by decide +kernel
theorem dX7_keeps_89 : decode cX7_keeps 89 = .ok (.getfield 62, 3) := by decide +kernel
theorem dX7_keeps_92 : decode cX7_keeps 92 = .ok (.iload 7, 2) := by decide +kernel
theorem dX7_keeps_94 : decode cX7_keeps 94 = .ok (.iaload, 1) := by decide +kernel
theorem dX7_keeps_95 : decode cX7_keeps 95 = .ok (.istore 8, 2) := by decide +kernel
theorem dX7_keeps_97 : decode cX7_keeps 97 = .ok (.aload_n 0, 1) := by decide +kernel
theorem dX7_keeps_98 : decode cX7_keeps 98 = .ok (.getfield 71, 3) := by decide +kernel
theorem dX7_keeps_101 : decode cX7_keeps 101 = .ok (.iload 8, 2) := by decide +kernel
theorem dX7_keeps_103 : decode cX7_keeps 103 = .ok (.iload 5, 2) := by decide +kernel
theorem dX7_keeps_105 : decode cX7_keeps 105 = .ok (.aload_n 0, 1) := by decide +kernel
theorem dX7_keeps_106 : decode cX7_keeps 106 = .ok (.getfield 71, 3) := by decide +kernel
theorem dX7_keeps_109 : decode cX7_keeps 109 = .ok (.iload 8, 2) := by decide +kernel
theorem dX7_keeps_111 : decode cX7_keeps 111 = .ok (.iaload, 1) := by decide +kernel
theorem dX7_keeps_112 : decode cX7_keeps 112 = .ok (.if_icmp .ge 8, 3) := by decide +kernel
theorem dX7_keeps_115 : decode cX7_keeps 115 = .ok (.iload 5, 2) := by decide +kernel
theorem dX7_keeps_117 : decode cX7_keeps 117 = .ok (.goto 10, 3) := by decide +kernel
theorem dX7_keeps_120 : decode cX7_keeps 120 = .ok (.aload_n 0, 1) := by decide +kernel
theorem dX7_keeps_121 : decode cX7_keeps 121 = .ok (.getfield 71, 3) := by decide +kernel
theorem dX7_keeps_124 : decode cX7_keeps 124 = .ok (.iload 8, 2) := by decide +kernel
theorem dX7_keeps_126 : decode cX7_keeps 126 = .ok (.iaload, 1) := by decide +kernel
theorem dX7_keeps_127 : decode cX7_keeps 127 = .ok (.iastore, 1) := by decide +kernel
theorem dX7_keeps_128 : decode cX7_keeps 128 = .ok (.return_, 1) := by decide +kernel
theorem dX7_keeps_129 : decode cX7_keeps 129 = .ok (.aload_n 0, 1) := by decide +kernel
theorem dX7_keeps_130 : decode cX7_keeps 130 = .ok (.getfield 65, 3) := by decide +kernel
theorem dX7_keeps_133 : decode cX7_keeps 133 = .ok (.iload 7, 2) := by decide +kernel
theorem dX7_keeps_135 : decode cX7_keeps 135 = .ok (.aload_n 0, 1) := by decide +kernel
theorem dX7_keeps_136 : decode cX7_keeps 136 = .ok (.getfield 180, 3) := by decide +kernel
theorem dX7_keeps_139 : decode cX7_keeps 139 = .ok (.iastore, 1) := by decide +kernel
theorem dX7_keeps_140 : decode cX7_keeps 140 = .ok (.aload_n 0, 1) := by decide +kernel
theorem dX7_keeps_141 : decode cX7_keeps 141 = .ok (.getfield 62, 3) := by decide +kernel
theorem dX7_keeps_144 : decode cX7_keeps 144 = .ok (.iload 7, 2) := by decide +kernel
theorem dX7_keeps_146 : decode cX7_keeps 146 = .ok (.aload_n 0, 1) := by decide +kernel
theorem dX7_keeps_147 : decode cX7_keeps 147 = .ok (.getfield 183, 3) := by decide +kernel
theorem dX7_keeps_150 : decode cX7_keeps 150 = .ok (.iastore, 1) := by decide +kernel
theorem dX7_keeps_151 : decode cX7_keeps 151 = .ok (.aload_n 0, 1) := by decide +kernel
theorem dX7_keeps_152 : decode cX7_keeps 152 = .ok (.getfield 68, 3) := by decide +kernel
theorem dX7_keeps_155 : decode cX7_keeps 155 = .ok (.aload_n 0, 1) := by decide +kernel
theorem dX7_keeps_156 : decode cX7_keeps 156 = .ok (.getfield 183, 3) := by decide +kernel
theorem dX7_keeps_159 : decode cX7_keeps 159 = .ok (.iload 6, 2) := by decide +kernel
theorem dX7_keeps_161 : decode cX7_keeps 161 = .ok (.iastore, 1) := by decide +kernel
theorem dX7_keeps_162 : decode cX7_keeps 162 = .ok (.aload_n 0, 1) := by decide +kernel
theorem dX7_keeps_163 : decode cX7_keeps 163 = .ok (.getfield 71, 3) := by decide +kernel
theorem dX7_keeps_166 : decode cX7_keeps 166 = .ok (.aload_n 0, 1) := by decide +kernel
theorem dX7_keeps_167 : decode cX7_keeps 167 = .ok (.getfield 183, 3) := by decide +kernel
theorem dX7_keeps_170 : decode cX7_keeps 170 = .ok (.iload 5, 2) := by decide +kernel
theorem dX7_keeps_172 : decode cX7_keeps 172 = .ok (.iastore, 1) := by decide +kernel
theorem dX7_keeps_173 : decode cX7_keeps 173 = .ok (.aload_n 0, 1) := by decide +kernel
theorem dX7_keeps_174 : decode cX7_keeps 174 = .ok (.getfield 74, 3) := by decide +kernel
theorem dX7_keeps_177 : decode cX7_keeps 177 = .ok (.aload_n 0, 1) := by decide +kernel
theorem dX7_keeps_178 : decode cX7_keeps 178 = .ok (.getfield 183, 3) := by decide +kernel
theorem dX7_keeps_181 : decode cX7_keeps 181 = .ok (.aload_n 0, 1) := by decide +kernel
theorem dX7_keeps_182 : decode cX7_keeps 182 = .ok (.getfield 78, 3) := by decide +kernel
theorem dX7_keeps_185 : decode cX7_keeps 185 = .ok (.iload_n 1, 1) := by decide +kernel
theorem dX7_keeps_186 : decode cX7_keeps 186 = .ok (.iaload, 1) := by decide +kernel
theorem dX7_keeps_187 : decode cX7_keeps 187 = .ok (.iastore, 1) := by decide +kernel
theorem dX7_keeps_188 : decode cX7_keeps 188 = .ok (.aload_n 0, 1) := by decide +kernel
theorem dX7_keeps_189 : decode cX7_keeps 189 = .ok (.getfield 78, 3) := by decide +kernel
theorem dX7_keeps_192 : decode cX7_keeps 192 = .ok (.iload_n 1, 1) := by decide +kernel
theorem dX7_keeps_193 : decode cX7_keeps 193 = .ok (.aload_n 0, 1) := by decide +kernel
theorem dX7_keeps_194 : decode cX7_keeps 194 = .ok (.getfield 183, 3) := by decide +kernel
theorem dX7_keeps_197 : decode cX7_keeps 197 = .ok (.iastore, 1) := by decide +kernel
theorem dX7_keeps_198 : decode cX7_keeps 198 = .ok (.aload_n 0, 1) := by decide +kernel
theorem dX7_keeps_199 : decode cX7_keeps 199 = .ok (.dup, 1) := by decide +kernel
theorem dX7_keeps_200 : decode cX7_keeps 200 = .ok (.getfield 183, 3) := by decide +kernel
theorem dX7_keeps_203 : decode cX7_keeps 203 = .ok (.iconst 1, 1) := by decide +kernel
theorem dX7_keeps_204 : decode cX7_keeps 204 = .ok (.iadd, 1) := by decide +kernel
theorem dX7_keeps_205 : decode cX7_keeps 205 = .ok (.putfield 183, 3) := by decide +kernel
theorem dX7_keeps_208 : decode cX7_keeps 208 = .ok (.return_, 1) := by decide +kernel
theorem dX7_numberOf_0 : decode cX7_numberOf 0 = .ok (.iconst 0, 1) := by decide +kernel
theorem dX7_numberOf_1 : decode cX7_numberOf 1 = .ok (.istore_n 2, 1) := by decide +kernel
theorem dX7_numberOf_2 : decode cX7_numberOf 2 = .ok (.aload_n 0, 1) := by decide +kernel
theorem dX7_numberOf_3 : decode cX7_numberOf 3 = .ok (.getfield 81, 3) := by decide +kernel
theorem dX7_numberOf_6 : decode cX7_numberOf 6 = .ok (.iload_n 2, 1) := by decide +kernel
theorem dX7_numberOf_7 : decode cX7_numberOf 7 = .ok (.iaload, 1) := by decide +kernel
theorem dX7_numberOf_8 : decode cX7_numberOf 8 = .ok (.iload_n 1, 1) := by decide +kernel
theorem dX7_numberOf_9 : decode cX7_numberOf 9 = .ok (.if_icmp .eq 9, 3) := by decide +kernel
theorem dX7_numberOf_12 : decode cX7_numberOf 12 = .ok (.iinc 2 1, 3) := by decide +kernel
theorem dX7_numberOf_15 : decode cX7_numberOf 15 = .ok (.goto (-13), 3) := by decide +kernel
theorem dX7_numberOf_18 : decode cX7_numberOf 18 = .ok (.iload_n 2, 1) := by decide +kernel
theorem dX7_numberOf_19 : decode cX7_numberOf 19 = .ok (.ireturn, 1) := by decide +kernel
set_option maxRecDepth 20000 in
theorem ggX7_begins_X7_boatsOf : GoodIn wsX7_begins wsX7_boatsOf := goodIn_r _ [7, 8, 9, 81, 82, 83, 84, 85, 86, 87, 88, 89, 90, 91, 92, 93, 94, 95, 96, 97, 98, 99, 100, 101, 102, 103, 104, 105, 106, 107, 108, 109, 110, 111, 112, 113, 114, 115, 116] (by decide +kernel) (by decide +kernel)
set_option maxRecDepth 20000 in
theorem gX7_begins_X7_boatsOf : GoodIn wsX7_begins (wsV RX7 186 RX7 yX7_boatsOf wsX7_boatsOf) := goodIn_app (goodIn_of _ (by decide +kernel)) ggX7_begins_X7_boatsOf
set_option maxRecDepth 20000 in
theorem ggX7_begins_X7_queues : GoodIn wsX7_begins wsX7_queues := goodIn_r _ [13, 14, 15, 16, 2, 1, 17, 18, 19, 6, 20, 21, 22, 23, 24, 25, 26, 27, 28, 29, 30, 31, 32, 33, 34, 35, 36, 37, 38, 39, 40, 41, 42, 43, 44, 45, 46, 47, 48, 81, 82, 83, 84, 85, 86, 87, 88, 89, 90, 91, 92, 93, 94, 95, 96, 97, 98, 99, 100, 101, 102, 103, 104, 105, 106, 107, 108, 109, 110, 111, 112, 113, 114, 115, 116] (by decide +kernel) (by decide +kernel)
set_option maxRecDepth 20000 in
theorem gX7_begins_X7_queues : GoodIn wsX7_begins (wsV RX7 153 RX7 yX7_queues wsX7_queues) := goodIn_app (goodIn_of _ (by decide +kernel)) ggX7_begins_X7_queues
set_option maxRecDepth 20000 in
theorem ggX7_begins_X7_fits : GoodIn wsX7_begins wsX7_fits := goodIn_r _ [52, 14, 26, 1, 27, 81, 82, 83, 84, 85, 86, 87, 88, 89, 90, 91, 92, 93, 94, 95, 96, 97, 98, 99, 100, 101, 102, 103, 104, 105, 106, 107, 108, 109, 110, 111, 112, 113, 114, 115, 116] (by decide +kernel) (by decide +kernel)
set_option maxRecDepth 20000 in
theorem gX7_begins_X7_fits : GoodIn wsX7_begins (wsV RX7 160 RX7 yX7_fits wsX7_fits) := goodIn_app (goodIn_of _ (by decide +kernel)) ggX7_begins_X7_fits
set_option maxRecDepth 20000 in
theorem ggX7_begins_X7_numberOf : GoodIn wsX7_begins wsX7_numberOf := goodIn_r _ [56, 9, 81, 82, 83, 84, 85, 86, 87, 88, 89, 90, 91, 92, 93, 94, 95, 96, 97, 98, 99, 100, 101, 102, 103, 104, 105, 106, 107, 108, 109, 110, 111, 112, 113, 114, 115, 116] (by decide +kernel) (by decide +kernel)
set_option maxRecDepth 20000 in
theorem gX7_begins_X7_numberOf : GoodIn wsX7_begins (wsV RX7 189 RX7 yX7_numberOf wsX7_numberOf) := goodIn_app (goodIn_of _ (by decide +kernel)) ggX7_begins_X7_numberOf
set_option maxRecDepth 20000 in
theorem ggX7_begins_X7_lasts : GoodIn wsX7_begins wsX7_lasts := goodIn_r _ [60, 29, 61, 62, 63, 6, 64, 65, 66, 67, 81, 82, 83, 84, 85, 86, 87, 88, 89, 90, 91, 92, 93, 94, 95, 96, 97, 98, 99, 100, 101, 102, 103, 104, 105, 106, 107, 108, 109, 110, 111, 112, 113, 114, 115, 116] (by decide +kernel) (by decide +kernel)
set_option maxRecDepth 20000 in
theorem gX7_begins_X7_lasts : GoodIn wsX7_begins (wsV RX7 170 RX7 yX7_lasts wsX7_lasts) := goodIn_app (goodIn_of _ (by decide +kernel)) ggX7_begins_X7_lasts
set_option maxRecDepth 20000 in
theorem ggX7_begins_X7_keeps : GoodIn wsX7_begins wsX7_keeps := goodIn_r _ [71, 72, 73, 74, 75, 76, 77, 78, 79, 80, 81, 82, 83, 84, 85, 86, 87, 88, 89, 90, 91, 92, 93, 94, 95, 96, 97, 98, 99, 100, 101, 102, 103, 104, 105, 106, 107, 108, 109, 110, 111, 112, 113, 114, 115, 116] (by decide +kernel) (by decide +kernel)
set_option maxRecDepth 20000 in
theorem gX7_begins_X7_keeps : GoodIn wsX7_begins (wsV RX7 192 RX7 yX7_keeps wsX7_keeps) := goodIn_app (goodIn_of _ (by decide +kernel)) ggX7_begins_X7_keeps
theorem dX7_begins_0 : decode cX7_begins 0 = .ok (.aload_n 0, 1) := by decide +kernel
theorem dX7_begins_1 : decode cX7_begins 1 = .ok (.iload_n 3, 1) := by decide +kernel
theorem dX7_begins_2 : decode cX7_begins 2 = .ok (.iload_n 1, 1) := by decide +kernel
theorem dX7_begins_3 : decode cX7_begins 3 = .ok (.aload_n 0, 1) := by decide +kernel
theorem dX7_begins_4 : decode cX7_begins 4 = .ok (.iload_n 2, 1) := by decide +kernel
theorem dX7_begins_5 : decode cX7_begins 5 = .ok (.invokevirtual 186, 3) := by decide +kernel
theorem dX7_begins_8 : decode cX7_begins 8 = .ok (.invokevirtual 153, 3) := by decide +kernel
theorem dX7_begins_11 : decode cX7_begins 11 = .ok (.aload_n 0, 1) := by decide +kernel
theorem dX7_begins_12 : decode cX7_begins 12 = .ok (.invokevirtual 160, 3) := by decide +kernel
theorem dX7_begins_15 : decode cX7_begins 15 = .ok (.istore 6, 2) := by decide +kernel
theorem dX7_begins_17 : decode cX7_begins 17 = .ok (.iload_n 2, 1) := by decide +kernel
theorem dX7_begins_18 : decode cX7_begins 18 = .ok (.istore 7, 2) := by decide +kernel
theorem dX7_begins_20 : decode cX7_begins 20 = .ok (.iload 5, 2) := by decide +kernel
theorem dX7_begins_22 : decode cX7_begins 22 = .ok (.istore 8, 2) := by decide +kernel
theorem dX7_begins_24 : decode cX7_begins 24 = .ok (.iconst 0, 1) := by decide +kernel
theorem dX7_begins_25 : decode cX7_begins 25 = .ok (.istore 9, 2) := by decide +kernel
theorem dX7_begins_27 : decode cX7_begins 27 = .ok (.iload 9, 2) := by decide +kernel
theorem dX7_begins_29 : decode cX7_begins 29 = .ok (.iload 6, 2) := by decide +kernel
theorem dX7_begins_31 : decode cX7_begins 31 = .ok (.if_icmp .gt 93, 3) := by decide +kernel
theorem dX7_begins_34 : decode cX7_begins 34 = .ok (.iload 9, 2) := by decide +kernel
theorem dX7_begins_36 : decode cX7_begins 36 = .ok (.ifCond .le 44, 3) := by decide +kernel
theorem dX7_begins_39 : decode cX7_begins 39 = .ok (.iload 7, 2) := by decide +kernel
theorem dX7_begins_41 : decode cX7_begins 41 = .ok (.iconst 1, 1) := by decide +kernel
theorem dX7_begins_42 : decode cX7_begins 42 = .ok (.aload_n 0, 1) := by decide +kernel
theorem dX7_begins_43 : decode cX7_begins 43 = .ok (.aload_n 0, 1) := by decide +kernel
theorem dX7_begins_44 : decode cX7_begins 44 = .ok (.getfield 58, 3) := by decide +kernel
theorem dX7_begins_47 : decode cX7_begins 47 = .ok (.iload 9, 2) := by decide +kernel
theorem dX7_begins_49 : decode cX7_begins 49 = .ok (.iconst 1, 1) := by decide +kernel
theorem dX7_begins_50 : decode cX7_begins 50 = .ok (.isub, 1) := by decide +kernel
theorem dX7_begins_51 : decode cX7_begins 51 = .ok (.iaload, 1) := by decide +kernel
theorem dX7_begins_52 : decode cX7_begins 52 = .ok (.invokevirtual 189, 3) := by decide +kernel
theorem dX7_begins_55 : decode cX7_begins 55 = .ok (.ishl, 1) := by decide +kernel
theorem dX7_begins_56 : decode cX7_begins 56 = .ok (.ior, 1) := by decide +kernel
theorem dX7_begins_57 : decode cX7_begins 57 = .ok (.istore 7, 2) := by decide +kernel
theorem dX7_begins_59 : decode cX7_begins 59 = .ok (.iload 8, 2) := by decide +kernel
theorem dX7_begins_61 : decode cX7_begins 61 = .ok (.iload_n 1, 1) := by decide +kernel
theorem dX7_begins_62 : decode cX7_begins 62 = .ok (.aload_n 0, 1) := by decide +kernel
theorem dX7_begins_63 : decode cX7_begins 63 = .ok (.getfield 40, 3) := by decide +kernel
theorem dX7_begins_66 : decode cX7_begins 66 = .ok (.aload_n 0, 1) := by decide +kernel
theorem dX7_begins_67 : decode cX7_begins 67 = .ok (.getfield 58, 3) := by decide +kernel
theorem dX7_begins_70 : decode cX7_begins 70 = .ok (.iload 9, 2) := by decide +kernel
theorem dX7_begins_72 : decode cX7_begins 72 = .ok (.iconst 1, 1) := by decide +kernel
theorem dX7_begins_73 : decode cX7_begins 73 = .ok (.isub, 1) := by decide +kernel
theorem dX7_begins_74 : decode cX7_begins 74 = .ok (.iaload, 1) := by decide +kernel
theorem dX7_begins_75 : decode cX7_begins 75 = .ok (.iaload, 1) := by decide +kernel
theorem dX7_begins_76 : decode cX7_begins 76 = .ok (.isub, 1) := by decide +kernel
theorem dX7_begins_77 : decode cX7_begins 77 = .ok (.iadd, 1) := by decide +kernel
theorem dX7_begins_78 : decode cX7_begins 78 = .ok (.istore 8, 2) := by decide +kernel
theorem dX7_begins_80 : decode cX7_begins 80 = .ok (.iload 9, 2) := by decide +kernel
theorem dX7_begins_82 : decode cX7_begins 82 = .ok (.ifCond .gt 8, 3) := by decide +kernel
theorem dX7_begins_85 : decode cX7_begins 85 = .ok (.iload 4, 2) := by decide +kernel
theorem dX7_begins_87 : decode cX7_begins 87 = .ok (.ifCond .ne 31, 3) := by decide +kernel
theorem dX7_begins_90 : decode cX7_begins 90 = .ok (.aload_n 0, 1) := by decide +kernel
theorem dX7_begins_91 : decode cX7_begins 91 = .ok (.iload_n 1, 1) := by decide +kernel
theorem dX7_begins_92 : decode cX7_begins 92 = .ok (.aload_n 0, 1) := by decide +kernel
theorem dX7_begins_93 : decode cX7_begins 93 = .ok (.iload_n 1, 1) := by decide +kernel
theorem dX7_begins_94 : decode cX7_begins 94 = .ok (.invokevirtual 170, 3) := by decide +kernel
theorem dX7_begins_97 : decode cX7_begins 97 = .ok (.iadd, 1) := by decide +kernel
theorem dX7_begins_98 : decode cX7_begins 98 = .ok (.iload 7, 2) := by decide +kernel
theorem dX7_begins_100 : decode cX7_begins 100 = .ok (.iconst 1, 1) := by decide +kernel
theorem dX7_begins_101 : decode cX7_begins 101 = .ok (.iload_n 3, 1) := by decide +kernel
theorem dX7_begins_102 : decode cX7_begins 102 = .ok (.isub, 1) := by decide +kernel
theorem dX7_begins_103 : decode cX7_begins 103 = .ok (.iload 9, 2) := by decide +kernel
theorem dX7_begins_105 : decode cX7_begins 105 = .ok (.ifCond .le 7, 3) := by decide +kernel
theorem dX7_begins_108 : decode cX7_begins 108 = .ok (.iconst 0, 1) := by decide +kernel
theorem dX7_begins_109 : decode cX7_begins 109 = .ok (.goto 4, 3) := by decide +kernel
theorem dX7_begins_112 : decode cX7_begins 112 = .ok (.iconst 1, 1) := by decide +kernel
theorem dX7_begins_113 : decode cX7_begins 113 = .ok (.iload 8, 2) := by decide +kernel
theorem dX7_begins_115 : decode cX7_begins 115 = .ok (.invokevirtual 192, 3) := by decide +kernel
theorem dX7_begins_118 : decode cX7_begins 118 = .ok (.iinc 9 1, 3) := by decide +kernel
theorem dX7_begins_121 : decode cX7_begins 121 = .ok (.goto (-94), 3) := by decide +kernel
theorem dX7_begins_124 : decode cX7_begins 124 = .ok (.return_, 1) := by decide +kernel
set_option maxRecDepth 20000 in
theorem ggX7_isTooMany_X7_isLeft : GoodIn wsX7_isTooMany wsX7_isLeft := goodIn_r _ [8, 9, 10, 11, 12, 7, 13, 14, 15, 16, 17, 18, 19, 20, 21, 22, 23, 24, 25, 26, 27, 28, 29, 30, 31, 32, 33, 34, 35, 36, 37, 38, 39, 40, 41, 42, 43, 44, 45, 46, 47, 48, 49, 50, 51, 52, 53, 54, 55, 56, 57, 58, 59, 60, 61, 62, 63, 64, 65, 66, 67] (by decide +kernel) (by decide +kernel)
set_option maxRecDepth 20000 in
theorem gX7_isTooMany_X7_isLeft : GoodIn wsX7_isTooMany (wsV RX7 147 RX7 yX7_isLeft wsX7_isLeft) := goodIn_app (goodIn_of _ (by decide +kernel)) ggX7_isTooMany_X7_isLeft
theorem dX7_isTooMany_0 : decode cX7_isTooMany 0 = .ok (.aload_n 0, 1) := by decide +kernel
theorem dX7_isTooMany_1 : decode cX7_isTooMany 1 = .ok (.iconst 0, 1) := by decide +kernel
theorem dX7_isTooMany_2 : decode cX7_isTooMany 2 = .ok (.putfield 176, 3) := by decide +kernel
theorem dX7_isTooMany_5 : decode cX7_isTooMany 5 = .ok (.iconst 0, 1) := by decide +kernel
theorem dX7_isTooMany_6 : decode cX7_isTooMany 6 = .ok (.istore_n 1, 1) := by decide +kernel
theorem dX7_isTooMany_7 : decode cX7_isTooMany 7 = .ok (.iload_n 1, 1) := by decide +kernel
theorem dX7_isTooMany_8 : decode cX7_isTooMany 8 = .ok (.aload_n 0, 1) := by decide +kernel
theorem dX7_isTooMany_9 : decode cX7_isTooMany 9 = .ok (.getfield 126, 3) := by decide +kernel
theorem dX7_isTooMany_12 : decode cX7_isTooMany 12 = .ok (.if_icmp .ge 51, 3) := by decide +kernel
theorem dX7_isTooMany_15 : decode cX7_isTooMany 15 = .ok (.aload_n 0, 1) := by decide +kernel
theorem dX7_isTooMany_16 : decode cX7_isTooMany 16 = .ok (.iload_n 1, 1) := by decide +kernel
theorem dX7_isTooMany_17 : decode cX7_isTooMany 17 = .ok (.invokevirtual 147, 3) := by decide +kernel
theorem dX7_isTooMany_20 : decode cX7_isTooMany 20 = .ok (.ifCond .ne 6, 3) := by decide +kernel
theorem dX7_isTooMany_23 : decode cX7_isTooMany 23 = .ok (.goto 34, 3) := by decide +kernel
theorem dX7_isTooMany_26 : decode cX7_isTooMany 26 = .ok (.aload_n 0, 1) := by decide +kernel
theorem dX7_isTooMany_27 : decode cX7_isTooMany 27 = .ok (.getfield 176, 3) := by decide +kernel
theorem dX7_isTooMany_30 : decode cX7_isTooMany 30 = .ok (.bipush 6, 2) := by decide +kernel
theorem dX7_isTooMany_32 : decode cX7_isTooMany 32 = .ok (.if_icmp .ne 5, 3) := by decide +kernel
theorem dX7_isTooMany_35 : decode cX7_isTooMany 35 = .ok (.iconst 1, 1) := by decide +kernel
theorem dX7_isTooMany_36 : decode cX7_isTooMany 36 = .ok (.ireturn, 1) := by decide +kernel
theorem dX7_isTooMany_37 : decode cX7_isTooMany 37 = .ok (.aload_n 0, 1) := by decide +kernel
theorem dX7_isTooMany_38 : decode cX7_isTooMany 38 = .ok (.getfield 81, 3) := by decide +kernel
theorem dX7_isTooMany_41 : decode cX7_isTooMany 41 = .ok (.aload_n 0, 1) := by decide +kernel
theorem dX7_isTooMany_42 : decode cX7_isTooMany 42 = .ok (.getfield 176, 3) := by decide +kernel
theorem dX7_isTooMany_45 : decode cX7_isTooMany 45 = .ok (.iload_n 1, 1) := by decide +kernel
theorem dX7_isTooMany_46 : decode cX7_isTooMany 46 = .ok (.iastore, 1) := by decide +kernel
theorem dX7_isTooMany_47 : decode cX7_isTooMany 47 = .ok (.aload_n 0, 1) := by decide +kernel
theorem dX7_isTooMany_48 : decode cX7_isTooMany 48 = .ok (.dup, 1) := by decide +kernel
theorem dX7_isTooMany_49 : decode cX7_isTooMany 49 = .ok (.getfield 176, 3) := by decide +kernel
theorem dX7_isTooMany_52 : decode cX7_isTooMany 52 = .ok (.iconst 1, 1) := by decide +kernel
theorem dX7_isTooMany_53 : decode cX7_isTooMany 53 = .ok (.iadd, 1) := by decide +kernel
theorem dX7_isTooMany_54 : decode cX7_isTooMany 54 = .ok (.putfield 176, 3) := by decide +kernel
theorem dX7_isTooMany_57 : decode cX7_isTooMany 57 = .ok (.iinc 1 1, 3) := by decide +kernel
theorem dX7_isTooMany_60 : decode cX7_isTooMany 60 = .ok (.goto (-53), 3) := by decide +kernel
theorem dX7_isTooMany_63 : decode cX7_isTooMany 63 = .ok (.iconst 0, 1) := by decide +kernel
theorem dX7_isTooMany_64 : decode cX7_isTooMany 64 = .ok (.ireturn, 1) := by decide +kernel
set_option maxRecDepth 20000 in
theorem ggX7_goesOn_X7_begins : GoodIn wsX7_goesOn wsX7_begins := goodIn_r _ [12, 13, 6, 14, 15, 16, 11, 17, 2, 7, 18, 19, 20, 21, 22, 23, 24, 25, 26, 27, 28, 29, 30, 31, 32, 33, 34, 35, 36, 37, 38, 39, 40, 41, 42, 43, 44, 45, 46, 47, 48, 49, 50, 51, 52, 53, 54, 55, 56, 57, 58, 59, 60, 61, 62, 63, 64, 65, 66, 67, 68, 69, 70, 71, 72, 73, 74, 75, 76, 77, 78, 79, 80, 81, 82, 1, 83, 4, 84, 85, 86, 87, 88, 89, 90, 91, 92, 93, 94, 95, 96, 97, 98, 99, 100, 101, 102, 103, 104, 105, 106, 107, 108, 109, 110, 111, 112, 113, 114, 115, 116, 117, 118, 119, 120, 121, 122] (by decide +kernel) (by decide +kernel)
set_option maxRecDepth 20000 in
theorem gX7_goesOn_X7_begins : GoodIn wsX7_goesOn (wsV RX7 202 RX7 yX7_begins wsX7_begins) := goodIn_app (goodIn_of _ (by decide +kernel)) ggX7_goesOn_X7_begins
theorem dX7_goesOn_0 : decode cX7_goesOn 0 = .ok (.aload_n 0, 1) := by decide +kernel
theorem dX7_goesOn_1 : decode cX7_goesOn 1 = .ok (.getfield 68, 3) := by decide +kernel
theorem dX7_goesOn_4 : decode cX7_goesOn 4 = .ok (.iload_n 2, 1) := by decide +kernel
theorem dX7_goesOn_5 : decode cX7_goesOn 5 = .ok (.iaload, 1) := by decide +kernel
theorem dX7_goesOn_6 : decode cX7_goesOn 6 = .ok (.iconst 4, 1) := by decide +kernel
theorem dX7_goesOn_7 : decode cX7_goesOn 7 = .ok (.idiv, 1) := by decide +kernel
theorem dX7_goesOn_8 : decode cX7_goesOn 8 = .ok (.bipush 64, 2) := by decide +kernel
theorem dX7_goesOn_10 : decode cX7_goesOn 10 = .ok (.irem, 1) := by decide +kernel
theorem dX7_goesOn_11 : decode cX7_goesOn 11 = .ok (.istore_n 3, 1) := by decide +kernel
theorem dX7_goesOn_12 : decode cX7_goesOn 12 = .ok (.aload_n 0, 1) := by decide +kernel
theorem dX7_goesOn_13 : decode cX7_goesOn 13 = .ok (.getfield 68, 3) := by decide +kernel
theorem dX7_goesOn_16 : decode cX7_goesOn 16 = .ok (.iload_n 2, 1) := by decide +kernel
theorem dX7_goesOn_17 : decode cX7_goesOn 17 = .ok (.iaload, 1) := by decide +kernel
theorem dX7_goesOn_18 : decode cX7_goesOn 18 = .ok (.iconst 2, 1) := by decide +kernel
theorem dX7_goesOn_19 : decode cX7_goesOn 19 = .ok (.idiv, 1) := by decide +kernel
theorem dX7_goesOn_20 : decode cX7_goesOn 20 = .ok (.iconst 2, 1) := by decide +kernel
theorem dX7_goesOn_21 : decode cX7_goesOn 21 = .ok (.irem, 1) := by decide +kernel
theorem dX7_goesOn_22 : decode cX7_goesOn 22 = .ok (.istore 4, 2) := by decide +kernel
theorem dX7_goesOn_24 : decode cX7_goesOn 24 = .ok (.aload_n 0, 1) := by decide +kernel
theorem dX7_goesOn_25 : decode cX7_goesOn 25 = .ok (.getfield 68, 3) := by decide +kernel
theorem dX7_goesOn_28 : decode cX7_goesOn 28 = .ok (.iload_n 2, 1) := by decide +kernel
theorem dX7_goesOn_29 : decode cX7_goesOn 29 = .ok (.iaload, 1) := by decide +kernel
theorem dX7_goesOn_30 : decode cX7_goesOn 30 = .ok (.iconst 2, 1) := by decide +kernel
theorem dX7_goesOn_31 : decode cX7_goesOn 31 = .ok (.irem, 1) := by decide +kernel
theorem dX7_goesOn_32 : decode cX7_goesOn 32 = .ok (.istore 5, 2) := by decide +kernel
theorem dX7_goesOn_34 : decode cX7_goesOn 34 = .ok (.iload_n 3, 1) := by decide +kernel
theorem dX7_goesOn_35 : decode cX7_goesOn 35 = .ok (.iconst 1, 1) := by decide +kernel
theorem dX7_goesOn_36 : decode cX7_goesOn 36 = .ok (.aload_n 0, 1) := by decide +kernel
theorem dX7_goesOn_37 : decode cX7_goesOn 37 = .ok (.getfield 176, 3) := by decide +kernel
theorem dX7_goesOn_40 : decode cX7_goesOn 40 = .ok (.ishl, 1) := by decide +kernel
theorem dX7_goesOn_41 : decode cX7_goesOn 41 = .ok (.iconst 1, 1) := by decide +kernel
theorem dX7_goesOn_42 : decode cX7_goesOn 42 = .ok (.isub, 1) := by decide +kernel
theorem dX7_goesOn_43 : decode cX7_goesOn 43 = .ok (.if_icmp .ne 40, 3) := by decide +kernel
theorem dX7_goesOn_46 : decode cX7_goesOn 46 = .ok (.aload_n 0, 1) := by decide +kernel
theorem dX7_goesOn_47 : decode cX7_goesOn 47 = .ok (.getfield 196, 3) := by decide +kernel
theorem dX7_goesOn_50 : decode cX7_goesOn 50 = .ok (.iconst (-1), 1) := by decide +kernel
theorem dX7_goesOn_51 : decode cX7_goesOn 51 = .ok (.if_icmp .eq 16, 3) := by decide +kernel
theorem dX7_goesOn_54 : decode cX7_goesOn 54 = .ok (.aload_n 0, 1) := by decide +kernel
theorem dX7_goesOn_55 : decode cX7_goesOn 55 = .ok (.getfield 71, 3) := by decide +kernel
theorem dX7_goesOn_58 : decode cX7_goesOn 58 = .ok (.iload_n 2, 1) := by decide +kernel
theorem dX7_goesOn_59 : decode cX7_goesOn 59 = .ok (.iaload, 1) := by decide +kernel
theorem dX7_goesOn_60 : decode cX7_goesOn 60 = .ok (.aload_n 0, 1) := by decide +kernel
theorem dX7_goesOn_61 : decode cX7_goesOn 61 = .ok (.getfield 196, 3) := by decide +kernel
theorem dX7_goesOn_64 : decode cX7_goesOn 64 = .ok (.if_icmp .ge 18, 3) := by decide +kernel
theorem dX7_goesOn_67 : decode cX7_goesOn 67 = .ok (.aload_n 0, 1) := by decide +kernel
theorem dX7_goesOn_68 : decode cX7_goesOn 68 = .ok (.aload_n 0, 1) := by decide +kernel
theorem dX7_goesOn_69 : decode cX7_goesOn 69 = .ok (.getfield 71, 3) := by decide +kernel
theorem dX7_goesOn_72 : decode cX7_goesOn 72 = .ok (.iload_n 2, 1) := by decide +kernel
theorem dX7_goesOn_73 : decode cX7_goesOn 73 = .ok (.iaload, 1) := by decide +kernel
theorem dX7_goesOn_74 : decode cX7_goesOn 74 = .ok (.putfield 196, 3) := by decide +kernel
theorem dX7_goesOn_77 : decode cX7_goesOn 77 = .ok (.aload_n 0, 1) := by decide +kernel
theorem dX7_goesOn_78 : decode cX7_goesOn 78 = .ok (.iload_n 1, 1) := by decide +kernel
theorem dX7_goesOn_79 : decode cX7_goesOn 79 = .ok (.putfield 199, 3) := by decide +kernel
theorem dX7_goesOn_82 : decode cX7_goesOn 82 = .ok (.return_, 1) := by decide +kernel
theorem dX7_goesOn_83 : decode cX7_goesOn 83 = .ok (.aload_n 0, 1) := by decide +kernel
theorem dX7_goesOn_84 : decode cX7_goesOn 84 = .ok (.iload_n 1, 1) := by decide +kernel
theorem dX7_goesOn_85 : decode cX7_goesOn 85 = .ok (.iload_n 3, 1) := by decide +kernel
theorem dX7_goesOn_86 : decode cX7_goesOn 86 = .ok (.iload 4, 2) := by decide +kernel
theorem dX7_goesOn_88 : decode cX7_goesOn 88 = .ok (.iload 5, 2) := by decide +kernel
theorem dX7_goesOn_90 : decode cX7_goesOn 90 = .ok (.aload_n 0, 1) := by decide +kernel
theorem dX7_goesOn_91 : decode cX7_goesOn 91 = .ok (.getfield 71, 3) := by decide +kernel
theorem dX7_goesOn_94 : decode cX7_goesOn 94 = .ok (.iload_n 2, 1) := by decide +kernel
theorem dX7_goesOn_95 : decode cX7_goesOn 95 = .ok (.iaload, 1) := by decide +kernel
theorem dX7_goesOn_96 : decode cX7_goesOn 96 = .ok (.invokevirtual 202, 3) := by decide +kernel
theorem dX7_goesOn_99 : decode cX7_goesOn 99 = .ok (.iconst 0, 1) := by decide +kernel
theorem dX7_goesOn_100 : decode cX7_goesOn 100 = .ok (.istore 6, 2) := by decide +kernel
theorem dX7_goesOn_102 : decode cX7_goesOn 102 = .ok (.iload 6, 2) := by decide +kernel
theorem dX7_goesOn_104 : decode cX7_goesOn 104 = .ok (.aload_n 0, 1) := by decide +kernel
theorem dX7_goesOn_105 : decode cX7_goesOn 105 = .ok (.getfield 176, 3) := by decide +kernel
theorem dX7_goesOn_108 : decode cX7_goesOn 108 = .ok (.if_icmp .ge 138, 3) := by decide +kernel
theorem dX7_goesOn_111 : decode cX7_goesOn 111 = .ok (.iload_n 3, 1) := by decide +kernel
theorem dX7_goesOn_112 : decode cX7_goesOn 112 = .ok (.iload 6, 2) := by decide +kernel
theorem dX7_goesOn_114 : decode cX7_goesOn 114 = .ok (.ishr, 1) := by decide +kernel
theorem dX7_goesOn_115 : decode cX7_goesOn 115 = .ok (.iconst 1, 1) := by decide +kernel
theorem dX7_goesOn_116 : decode cX7_goesOn 116 = .ok (.iand, 1) := by decide +kernel
theorem dX7_goesOn_117 : decode cX7_goesOn 117 = .ok (.ifCond .ne 23, 3) := by decide +kernel
theorem dX7_goesOn_120 : decode cX7_goesOn 120 = .ok (.aload_n 0, 1) := by decide +kernel
theorem dX7_goesOn_121 : decode cX7_goesOn 121 = .ok (.getfield 40, 3) := by decide +kernel
theorem dX7_goesOn_124 : decode cX7_goesOn 124 = .ok (.aload_n 0, 1) := by decide +kernel
theorem dX7_goesOn_125 : decode cX7_goesOn 125 = .ok (.getfield 81, 3) := by decide +kernel
theorem dX7_goesOn_128 : decode cX7_goesOn 128 = .ok (.iload 6, 2) := by decide +kernel
theorem dX7_goesOn_130 : decode cX7_goesOn 130 = .ok (.iaload, 1) := by decide +kernel
theorem dX7_goesOn_131 : decode cX7_goesOn 131 = .ok (.iaload, 1) := by decide +kernel
theorem dX7_goesOn_132 : decode cX7_goesOn 132 = .ok (.iload_n 1, 1) := by decide +kernel
theorem dX7_goesOn_133 : decode cX7_goesOn 133 = .ok (.if_icmp .le 7, 3) := by decide +kernel
theorem dX7_goesOn_136 : decode cX7_goesOn 136 = .ok (.iconst 1, 1) := by decide +kernel
theorem dX7_goesOn_137 : decode cX7_goesOn 137 = .ok (.goto 4, 3) := by decide +kernel
theorem dX7_goesOn_140 : decode cX7_goesOn 140 = .ok (.iconst 0, 1) := by decide +kernel
theorem dX7_goesOn_141 : decode cX7_goesOn 141 = .ok (.istore 7, 2) := by decide +kernel
theorem dX7_goesOn_143 : decode cX7_goesOn 143 = .ok (.iconst 0, 1) := by decide +kernel
theorem dX7_goesOn_144 : decode cX7_goesOn 144 = .ok (.istore 8, 2) := by decide +kernel
theorem dX7_goesOn_146 : decode cX7_goesOn 146 = .ok (.iload 8, 2) := by decide +kernel
theorem dX7_goesOn_148 : decode cX7_goesOn 148 = .ok (.iload 6, 2) := by decide +kernel
theorem dX7_goesOn_150 : decode cX7_goesOn 150 = .ok (.if_icmp .ge 58, 3) := by decide +kernel
theorem dX7_goesOn_153 : decode cX7_goesOn 153 = .ok (.iload 7, 2) := by decide +kernel
theorem dX7_goesOn_155 : decode cX7_goesOn 155 = .ok (.ifCond .eq 44, 3) := by decide +kernel
theorem dX7_goesOn_158 : decode cX7_goesOn 158 = .ok (.iload_n 3, 1) := by decide +kernel
theorem dX7_goesOn_159 : decode cX7_goesOn 159 = .ok (.iload 8, 2) := by decide +kernel
theorem dX7_goesOn_161 : decode cX7_goesOn 161 = .ok (.ishr, 1) := by decide +kernel
theorem dX7_goesOn_162 : decode cX7_goesOn 162 = .ok (.iconst 1, 1) := by decide +kernel
theorem dX7_goesOn_163 : decode cX7_goesOn 163 = .ok (.iand, 1) := by decide +kernel
theorem dX7_goesOn_164 : decode cX7_goesOn 164 = .ok (.iconst 1, 1) := by decide +kernel
theorem dX7_goesOn_165 : decode cX7_goesOn 165 = .ok (.if_icmp .eq 30, 3) := by decide +kernel
theorem dX7_goesOn_168 : decode cX7_goesOn 168 = .ok (.aload_n 0, 1) := by decide +kernel
theorem dX7_goesOn_169 : decode cX7_goesOn 169 = .ok (.getfield 40, 3) := by decide +kernel
theorem dX7_goesOn_172 : decode cX7_goesOn 172 = .ok (.aload_n 0, 1) := by decide +kernel
theorem dX7_goesOn_173 : decode cX7_goesOn 173 = .ok (.getfield 81, 3) := by decide +kernel
theorem dX7_goesOn_176 : decode cX7_goesOn 176 = .ok (.iload 8, 2) := by decide +kernel
theorem dX7_goesOn_178 : decode cX7_goesOn 178 = .ok (.iaload, 1) := by decide +kernel
theorem dX7_goesOn_179 : decode cX7_goesOn 179 = .ok (.iaload, 1) := by decide +kernel
theorem dX7_goesOn_180 : decode cX7_goesOn 180 = .ok (.aload_n 0, 1) := by decide +kernel
theorem dX7_goesOn_181 : decode cX7_goesOn 181 = .ok (.getfield 40, 3) := by decide +kernel
theorem dX7_goesOn_184 : decode cX7_goesOn 184 = .ok (.aload_n 0, 1) := by decide +kernel
theorem dX7_goesOn_185 : decode cX7_goesOn 185 = .ok (.getfield 81, 3) := by decide +kernel
theorem dX7_goesOn_188 : decode cX7_goesOn 188 = .ok (.iload 6, 2) := by decide +kernel
theorem dX7_goesOn_190 : decode cX7_goesOn 190 = .ok (.iaload, 1) := by decide +kernel
theorem dX7_goesOn_191 : decode cX7_goesOn 191 = .ok (.iaload, 1) := by decide +kernel
theorem dX7_goesOn_192 : decode cX7_goesOn 192 = .ok (.if_icmp .eq 7, 3) := by decide +kernel
theorem dX7_goesOn_195 : decode cX7_goesOn 195 = .ok (.iconst 1, 1) := by decide +kernel
theorem dX7_goesOn_196 : decode cX7_goesOn 196 = .ok (.goto 4, 3) := by decide +kernel
theorem dX7_goesOn_199 : decode cX7_goesOn 199 = .ok (.iconst 0, 1) := by decide +kernel
theorem dX7_goesOn_200 : decode cX7_goesOn 200 = .ok (.istore 7, 2) := by decide +kernel
theorem dX7_goesOn_202 : decode cX7_goesOn 202 = .ok (.iinc 8 1, 3) := by decide +kernel
theorem dX7_goesOn_205 : decode cX7_goesOn 205 = .ok (.goto (-59), 3) := by decide +kernel
theorem dX7_goesOn_208 : decode cX7_goesOn 208 = .ok (.iload 7, 2) := by decide +kernel
theorem dX7_goesOn_210 : decode cX7_goesOn 210 = .ok (.ifCond .eq 30, 3) := by decide +kernel
theorem dX7_goesOn_213 : decode cX7_goesOn 213 = .ok (.aload_n 0, 1) := by decide +kernel
theorem dX7_goesOn_214 : decode cX7_goesOn 214 = .ok (.aload_n 0, 1) := by decide +kernel
theorem dX7_goesOn_215 : decode cX7_goesOn 215 = .ok (.getfield 40, 3) := by decide +kernel
theorem dX7_goesOn_218 : decode cX7_goesOn 218 = .ok (.aload_n 0, 1) := by decide +kernel
theorem dX7_goesOn_219 : decode cX7_goesOn 219 = .ok (.getfield 81, 3) := by decide +kernel
theorem dX7_goesOn_222 : decode cX7_goesOn 222 = .ok (.iload 6, 2) := by decide +kernel
theorem dX7_goesOn_224 : decode cX7_goesOn 224 = .ok (.iaload, 1) := by decide +kernel
theorem dX7_goesOn_225 : decode cX7_goesOn 225 = .ok (.iaload, 1) := by decide +kernel
theorem dX7_goesOn_226 : decode cX7_goesOn 226 = .ok (.iload_n 3, 1) := by decide +kernel
theorem dX7_goesOn_227 : decode cX7_goesOn 227 = .ok (.iload 4, 2) := by decide +kernel
theorem dX7_goesOn_229 : decode cX7_goesOn 229 = .ok (.iload 5, 2) := by decide +kernel
theorem dX7_goesOn_231 : decode cX7_goesOn 231 = .ok (.aload_n 0, 1) := by decide +kernel
theorem dX7_goesOn_232 : decode cX7_goesOn 232 = .ok (.getfield 71, 3) := by decide +kernel
theorem dX7_goesOn_235 : decode cX7_goesOn 235 = .ok (.iload_n 2, 1) := by decide +kernel
theorem dX7_goesOn_236 : decode cX7_goesOn 236 = .ok (.iaload, 1) := by decide +kernel
theorem dX7_goesOn_237 : decode cX7_goesOn 237 = .ok (.invokevirtual 202, 3) := by decide +kernel
theorem dX7_goesOn_240 : decode cX7_goesOn 240 = .ok (.iinc 6 1, 3) := by decide +kernel
theorem dX7_goesOn_243 : decode cX7_goesOn 243 = .ok (.goto (-141), 3) := by decide +kernel
theorem dX7_goesOn_246 : decode cX7_goesOn 246 = .ok (.return_, 1) := by decide +kernel
set_option maxRecDepth 20000 in
theorem ggX7_works_X7_keeps : GoodIn wsX7_works wsX7_keeps := goodIn_r _ [14, 15, 16, 1, 17, 18, 19, 2, 9, 6, 94, 95, 96, 97, 98, 99, 100, 101, 102, 103, 104, 105, 106, 107, 108, 109, 110, 111, 112, 113, 114, 115, 116, 117, 118, 119, 120, 121, 122, 123, 124, 125, 126, 127, 128, 129] (by decide +kernel) (by decide +kernel)
set_option maxRecDepth 20000 in
theorem gX7_works_X7_keeps : GoodIn wsX7_works (wsV RX7 192 RX7 yX7_keeps wsX7_keeps) := goodIn_app (goodIn_of _ (by decide +kernel)) ggX7_works_X7_keeps
set_option maxRecDepth 20000 in
theorem ggX7_works_X7_goesOn : GoodIn wsX7_works wsX7_goesOn := goodIn_r _ [23, 17, 24, 3, 19, 4, 25, 26, 27, 28, 29, 13, 30, 31, 32, 33, 34, 35, 36, 37, 38, 39, 40, 41, 42, 43, 44, 45, 46, 47, 48, 49, 50, 51, 52, 53, 54, 55, 56, 57, 58, 59, 60, 61, 62, 63, 64, 65, 66, 67, 68, 69, 70, 71, 72, 73, 74, 75, 76, 77, 78, 79, 80, 81, 82, 83, 84, 85, 86, 87, 88, 89, 90, 91, 92, 93, 10, 11, 12, 14, 15, 16, 1, 18, 2, 9, 6, 94, 95, 96, 97, 98, 99, 100, 101, 102, 103, 104, 105, 106, 107, 108, 109, 110, 111, 112, 113, 114, 115, 116, 117, 118, 119, 120, 121, 122, 123, 124, 125, 126, 127, 128, 129] (by decide +kernel) (by decide +kernel)
set_option maxRecDepth 20000 in
theorem gX7_works_X7_goesOn : GoodIn wsX7_works (wsV RX7 205 RX7 yX7_goesOn wsX7_goesOn) := goodIn_app (goodIn_of _ (by decide +kernel)) ggX7_works_X7_goesOn
