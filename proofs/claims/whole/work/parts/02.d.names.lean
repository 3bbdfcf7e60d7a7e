theorem dX6_renew_22 : decode cX6_renew 22 = .ok (.iconst 5, 1) := by decide +kernel
theorem dX6_renew_23 : decode cX6_renew 23 = .ok (.invokevirtual 158, 3) := by decide +kernel
theorem dX6_renew_26 : decode cX6_renew 26 = .ok (.iadd, 1) := by decide +kernel
theorem dX6_renew_27 : decode cX6_renew 27 = .ok (.istore_n 2, 1) := by decide +kernel
theorem dX6_renew_28 : decode cX6_renew 28 = .ok (.iload_n 2, 1) := by decide +kernel
theorem dX6_renew_29 : decode cX6_renew 29 = .ok (.sipush 20000, 3) := by decide +kernel
theorem dX6_renew_32 : decode cX6_renew 32 = .ok (.if_icmp .le 5, 3) := by decide +kernel
theorem dX6_renew_35 : decode cX6_renew 35 = .ok (.iconst (-1), 1) := by decide +kernel
theorem dX6_renew_36 : decode cX6_renew 36 = .ok (.ireturn, 1) := by decide +kernel
theorem dX6_renew_37 : decode cX6_renew 37 = .ok (.aload_n 0, 1) := by decide +kernel
theorem dX6_renew_38 : decode cX6_renew 38 = .ok (.iload_n 2, 1) := by decide +kernel
theorem dX6_renew_39 : decode cX6_renew 39 = .ok (.putfield 149, 3) := by decide +kernel
theorem dX6_renew_42 : decode cX6_renew 42 = .ok (.aload_n 0, 1) := by decide +kernel
theorem dX6_renew_43 : decode cX6_renew 43 = .ok (.iconst 0, 1) := by decide +kernel
theorem dX6_renew_44 : decode cX6_renew 44 = .ok (.putfield 155, 3) := by decide +kernel
theorem dX6_renew_47 : decode cX6_renew 47 = .ok (.iload_n 2, 1) := by decide +kernel
theorem dX6_renew_48 : decode cX6_renew 48 = .ok (.ireturn, 1) := by decide +kernel
set_option maxRecDepth 20000 in
theorem ggX6_plan_X6_gatherLeft : GoodIn wsX6_plan wsX6_gatherLeft := goodIn_r _ [5, 6, 7, 8, 9, 10, 11, 12, 13, 14, 15, 16, 17, 18, 19, 20, 21, 22, 23, 24, 25, 26, 27, 28, 29, 30, 31, 32, 33, 34, 35, 36, 37, 38, 39, 40, 4, 41, 42, 43, 44, 45, 46, 47, 48, 49, 50, 51, 52, 53, 54, 55, 56, 57, 58, 59, 60, 61, 62, 63, 64, 65, 66, 67, 68, 69, 70, 71, 72, 73, 74, 75, 76, 77, 78, 79, 80, 81, 82, 83, 84, 85, 86, 144, 145, 146, 147, 148, 149, 150, 151, 152, 153, 154, 155, 156, 157, 158, 159, 160, 161, 162, 163, 164, 165, 166, 167, 168, 169, 170, 171, 172, 173, 174, 175, 176, 177, 178, 179, 180, 181, 182, 183, 184, 185] (by decide +kernel) (by decide +kernel)
set_option maxRecDepth 20000 in
theorem gX6_plan_X6_gatherLeft : GoodIn wsX6_plan (wsV RX6 173 RX6 yX6_gatherLeft wsX6_gatherLeft) := goodIn_app (goodIn_of _ (by decide +kernel)) ggX6_plan_X6_gatherLeft
set_option maxRecDepth 20000 in
theorem ggX6_plan_X6_bestPlan : GoodIn wsX6_plan wsX6_bestPlan := goodIn_r _ [90, 6, 91, 92, 50, 93, 94, 95, 12, 96, 97, 98, 99, 100, 14, 83, 101, 102, 103, 104, 105, 106, 107, 108, 109, 110, 111, 112, 113, 54, 55, 56, 57, 58, 114, 115, 116, 117, 118, 119, 120, 121, 122, 123, 124, 125, 126, 127, 128, 129, 130, 131, 132, 133, 134, 135, 136, 137, 138, 81, 85, 139, 4, 140, 144, 145, 146, 147, 148, 149, 150, 151, 152, 153, 154, 155, 156, 157, 158, 159, 160, 161, 162, 163, 164, 165, 166, 167, 186, 187, 188, 189, 179, 180, 181, 182, 183] (by decide +kernel) (by decide +kernel)
set_option maxRecDepth 20000 in
theorem gX6_plan_X6_bestPlan : GoodIn wsX6_plan (wsV RX6 176 RX6 yX6_bestPlan wsX6_bestPlan) := goodIn_app (goodIn_of _ (by decide +kernel)) ggX6_plan_X6_bestPlan
set_option maxRecDepth 20000 in
theorem ggX6_plan_X2_waitsOf : GoodIn wsX6_plan wsX2_waitsOf := goodIn_r _ [143] (by decide +kernel) (by decide +kernel)
set_option maxRecDepth 20000 in
theorem gX6_plan_X2_waitsOf : GoodIn wsX6_plan (va_wsS RX6 180 yX2_waitsOf wsX2_waitsOf) := goodIn_app (goodIn_of _ (by decide +kernel)) ggX6_plan_X2_waitsOf
theorem dX6_plan_0 : decode cX6_plan 0 = .ok (.aload_n 0, 1) := by decide +kernel
theorem dX6_plan_1 : decode cX6_plan 1 = .ok (.invokevirtual 173, 3) := by decide +kernel
theorem dX6_plan_4 : decode cX6_plan 4 = .ok (.istore_n 1, 1) := by decide +kernel
theorem dX6_plan_5 : decode cX6_plan 5 = .ok (.iload_n 1, 1) := by decide +kernel
theorem dX6_plan_6 : decode cX6_plan 6 = .ok (.bipush 6, 2) := by decide +kernel
theorem dX6_plan_8 : decode cX6_plan 8 = .ok (.if_icmp .le 6, 3) := by decide +kernel
theorem dX6_plan_11 : decode cX6_plan 11 = .ok (.bipush (-2), 2) := by decide +kernel
theorem dX6_plan_13 : decode cX6_plan 13 = .ok (.ireturn, 1) := by decide +kernel
theorem dX6_plan_14 : decode cX6_plan 14 = .ok (.iload_n 1, 1) := by decide +kernel
theorem dX6_plan_15 : decode cX6_plan 15 = .ok (.ifCond .ne 7, 3) := by decide +kernel
theorem dX6_plan_18 : decode cX6_plan 18 = .ok (.iconst 0, 1) := by decide +kernel
theorem dX6_plan_19 : decode cX6_plan 19 = .ok (.goto 10, 3) := by decide +kernel
theorem dX6_plan_22 : decode cX6_plan 22 = .ok (.aload_n 0, 1) := by decide +kernel
theorem dX6_plan_23 : decode cX6_plan 23 = .ok (.invokevirtual 176, 3) := by decide +kernel
theorem dX6_plan_26 : decode cX6_plan 26 = .ok (.invokestatic 180, 3) := by decide +kernel
theorem dX6_plan_29 : decode cX6_plan 29 = .ok (.ireturn, 1) := by decide +kernel
set_option maxRecDepth 20000 in
theorem ggX6_ends_X6_gatherLeft : GoodIn wsX6_ends wsX6_gatherLeft := goodIn_r _ [5, 6, 7, 8, 9, 10, 11, 12, 13, 14, 15, 16, 17, 18, 19, 20, 21, 22, 23, 24, 25, 26, 27, 28, 29, 30, 31, 32, 33, 34, 35, 36, 37, 38, 39, 40, 4, 41, 42, 43, 44, 45, 46, 47, 48, 49, 50, 51, 52, 53, 54, 55, 56, 57, 58, 59, 60, 61, 62, 63, 64, 65, 66, 67, 68, 69, 70, 71, 72, 73, 74, 75, 76, 77, 78, 79, 80, 81, 82, 83, 84, 85, 86, 145, 146, 147, 148, 149, 150, 151, 152, 153, 154, 155, 156, 157, 158, 159, 160, 161, 162, 163, 164, 165, 166, 167, 168, 169, 170, 171, 172, 173, 174, 175, 176, 177, 178, 179, 180, 181, 182, 183, 184, 185, 186] (by decide +kernel) (by decide +kernel)
set_option maxRecDepth 20000 in
theorem gX6_ends_X6_gatherLeft : GoodIn wsX6_ends (wsV RX6 173 RX6 yX6_gatherLeft wsX6_gatherLeft) := goodIn_app (goodIn_of _ (by decide +kernel)) ggX6_ends_X6_gatherLeft
set_option maxRecDepth 20000 in
theorem ggX6_ends_X6_bestPlan : GoodIn wsX6_ends wsX6_bestPlan := goodIn_r _ [90, 6, 91, 92, 50, 93, 94, 95, 12, 96, 97, 98, 99, 100, 14, 83, 101, 102, 103, 104, 105, 106, 107, 108, 109, 110, 111, 112, 113, 54, 55, 56, 57, 58, 114, 115, 116, 117, 118, 119, 120, 121, 122, 123, 124, 125, 126, 127, 128, 129, 130, 131, 132, 133, 134, 135, 136, 137, 138, 81, 85, 139, 4, 140, 145, 146, 147, 148, 149, 150, 151, 152, 153, 154, 155, 156, 157, 158, 159, 160, 161, 162, 163, 164, 165, 166, 167, 168, 187, 188, 189, 190, 180, 181, 182, 183, 184] (by decide +kernel) (by decide +kernel)
set_option maxRecDepth 20000 in
theorem gX6_ends_X6_bestPlan : GoodIn wsX6_ends (wsV RX6 176 RX6 yX6_bestPlan wsX6_bestPlan) := goodIn_app (goodIn_of _ (by decide +kernel)) ggX6_ends_X6_bestPlan
set_option maxRecDepth 20000 in
theorem ggX6_ends_X2_endOf : GoodIn wsX6_ends wsX2_endOf := goodIn_r _ [143, 144] (by decide +kernel) (by decide +kernel)
set_option maxRecDepth 20000 in
theorem gX6_ends_X2_endOf : GoodIn wsX6_ends (va_wsS RX6 184 yX2_endOf wsX2_endOf) := goodIn_app (goodIn_of _ (by decide +kernel)) ggX6_ends_X2_endOf
theorem dX6_ends_0 : decode cX6_ends 0 = .ok (.aload_n 0, 1) := by decide +kernel
theorem dX6_ends_1 : decode cX6_ends 1 = .ok (.invokevirtual 173, 3) := by decide +kernel
theorem dX6_ends_4 : decode cX6_ends 4 = .ok (.istore_n 1, 1) := by decide +kernel
theorem dX6_ends_5 : decode cX6_ends 5 = .ok (.iload_n 1, 1) := by decide +kernel
theorem dX6_ends_6 : decode cX6_ends 6 = .ok (.bipush 6, 2) := by decide +kernel
theorem dX6_ends_8 : decode cX6_ends 8 = .ok (.if_icmp .le 6, 3) := by decide +kernel
theorem dX6_ends_11 : decode cX6_ends 11 = .ok (.bipush (-2), 2) := by decide +kernel
theorem dX6_ends_13 : decode cX6_ends 13 = .ok (.ireturn, 1) := by decide +kernel
theorem dX6_ends_14 : decode cX6_ends 14 = .ok (.iload_n 1, 1) := by decide +kernel
theorem dX6_ends_15 : decode cX6_ends 15 = .ok (.ifCond .ne 7, 3) := by decide +kernel
theorem dX6_ends_18 : decode cX6_ends 18 = .ok (.iconst (-1), 1) := by decide +kernel
theorem dX6_ends_19 : decode cX6_ends 19 = .ok (.goto 10, 3) := by decide +kernel
theorem dX6_ends_22 : decode cX6_ends 22 = .ok (.aload_n 0, 1) := by decide +kernel
theorem dX6_ends_23 : decode cX6_ends 23 = .ok (.invokevirtual 176, 3) := by decide +kernel
theorem dX6_ends_26 : decode cX6_ends 26 = .ok (.invokestatic 184, 3) := by decide +kernel
theorem dX6_ends_29 : decode cX6_ends 29 = .ok (.ireturn, 1) := by decide +kernel
set_option maxRecDepth 20000 in
theorem ggX6_stock_X6_isSide : GoodIn wsX6_stock wsX6_isSide := goodIn_r _ [4] (by decide +kernel) (by decide +kernel)
set_option maxRecDepth 20000 in
theorem gX6_stock_X6_isSide : GoodIn wsX6_stock (va_wsS RX6 93 yX6_isSide wsX6_isSide) := goodIn_app (goodIn_of _ (by decide +kernel)) ggX6_stock_X6_isSide
set_option maxRecDepth 20000 in
theorem ggX6_stock_X6_waterAt : GoodIn wsX6_stock wsX6_waterAt := goodIn_r _ [8, 9, 10, 17, 18, 19, 20, 21, 22, 23, 24, 25, 26, 27, 28, 29, 30, 31] (by decide +kernel) (by decide +kernel)
set_option maxRecDepth 20000 in
theorem gX6_stock_X6_waterAt : GoodIn wsX6_stock (wsV RX6 97 RX6 yX6_waterAt wsX6_waterAt) := goodIn_app (goodIn_of _ (by decide +kernel)) ggX6_stock_X6_waterAt
set_option maxRecDepth 20000 in
theorem ggX6_stock_X5_tonnes : GoodIn wsX6_stock wsX5_tonnes := goodIn_r _ [15, 16, 32, 33] (by decide +kernel) (by decide +kernel)
set_option maxRecDepth 20000 in
theorem gX6_stock_X5_tonnes : GoodIn wsX6_stock (wsV RX6 186 RX5 yX5_tonnes wsX5_tonnes) := goodIn_app (goodIn_of _ (by decide +kernel)) ggX6_stock_X5_tonnes
theorem dX6_stock_0 : decode cX6_stock 0 = .ok (.iload_n 1, 1) := by decide +kernel
theorem dX6_stock_1 : decode cX6_stock 1 = .ok (.invokestatic 93, 3) := by decide +kernel
theorem dX6_stock_4 : decode cX6_stock 4 = .ok (.ifCond .eq 14, 3) := by decide +kernel
theorem dX6_stock_7 : decode cX6_stock 7 = .ok (.aload_n 0, 1) := by decide +kernel
theorem dX6_stock_8 : decode cX6_stock 8 = .ok (.iload_n 1, 1) := by decide +kernel
theorem dX6_stock_9 : decode cX6_stock 9 = .ok (.invokevirtual 97, 3) := by decide +kernel
theorem dX6_stock_12 : decode cX6_stock 12 = .ok (.invokevirtual 186, 3) := by decide +kernel
theorem dX6_stock_15 : decode cX6_stock 15 = .ok (.goto 4, 3) := by decide +kernel
theorem dX6_stock_18 : decode cX6_stock 18 = .ok (.lconst 0, 1) := by decide +kernel
theorem dX6_stock_19 : decode cX6_stock 19 = .ok (.lreturn, 1) := by decide +kernel
set_option maxRecDepth 20000 in
theorem ggX6_level_X6_isSide : GoodIn wsX6_level wsX6_isSide := goodIn_r _ [4] (by decide +kernel) (by decide +kernel)
set_option maxRecDepth 20000 in
theorem gX6_level_X6_isSide : GoodIn wsX6_level (va_wsS RX6 93 yX6_isSide wsX6_isSide) := goodIn_app (goodIn_of _ (by decide +kernel)) ggX6_level_X6_isSide
set_option maxRecDepth 20000 in
theorem ggX6_level_X6_waterAt : GoodIn wsX6_level wsX6_waterAt := goodIn_r _ [8, 9, 10, 22, 23, 24, 25, 26, 27, 28, 29, 30, 31, 32, 33, 34, 35, 36] (by decide +kernel) (by decide +kernel)
set_option maxRecDepth 20000 in
theorem gX6_level_X6_waterAt : GoodIn wsX6_level (wsV RX6 97 RX6 yX6_waterAt wsX6_waterAt) := goodIn_app (goodIn_of _ (by decide +kernel)) ggX6_level_X6_waterAt
set_option maxRecDepth 20000 in
theorem ggX6_level_X5_centimetres : GoodIn wsX6_level wsX5_centimetres := goodIn_r _ [15, 16, 17, 18, 19, 20, 21, 37, 38] (by decide +kernel) (by decide +kernel)
set_option maxRecDepth 20000 in
theorem gX6_level_X5_centimetres : GoodIn wsX6_level (wsV RX6 189 RX5 yX5_centimetres wsX5_centimetres) := goodIn_app (goodIn_of _ (by decide +kernel)) ggX6_level_X5_centimetres
theorem dX6_level_0 : decode cX6_level 0 = .ok (.iload_n 1, 1) := by decide +kernel
theorem dX6_level_1 : decode cX6_level 1 = .ok (.invokestatic 93, 3) := by decide +kernel
theorem dX6_level_4 : decode cX6_level 4 = .ok (.ifCond .eq 14, 3) := by decide +kernel
theorem dX6_level_7 : decode cX6_level 7 = .ok (.aload_n 0, 1) := by decide +kernel
theorem dX6_level_8 : decode cX6_level 8 = .ok (.iload_n 1, 1) := by decide +kernel
theorem dX6_level_9 : decode cX6_level 9 = .ok (.invokevirtual 97, 3) := by decide +kernel
theorem dX6_level_12 : decode cX6_level 12 = .ok (.invokevirtual 189, 3) := by decide +kernel
theorem dX6_level_15 : decode cX6_level 15 = .ok (.goto 4, 3) := by decide +kernel
theorem dX6_level_18 : decode cX6_level 18 = .ok (.iconst 0, 1) := by decide +kernel
theorem dX6_level_19 : decode cX6_level 19 = .ok (.ireturn, 1) := by decide +kernel
set_option maxRecDepth 20000 in
theorem ggX6_depth_X6_isSide : GoodIn wsX6_depth wsX6_isSide := goodIn_r _ [4] (by decide +kernel) (by decide +kernel)
set_option maxRecDepth 20000 in
theorem gX6_depth_X6_isSide : GoodIn wsX6_depth (va_wsS RX6 93 yX6_isSide wsX6_isSide) := goodIn_app (goodIn_of _ (by decide +kernel)) ggX6_depth_X6_isSide
set_option maxRecDepth 20000 in
theorem ggX6_depth_X6_waterAt : GoodIn wsX6_depth wsX6_waterAt := goodIn_r _ [8, 9, 10, 29, 30, 31, 32, 33, 34, 35, 36, 37, 38, 39, 40, 41, 42, 43] (by decide +kernel) (by decide +kernel)
set_option maxRecDepth 20000 in
theorem gX6_depth_X6_waterAt : GoodIn wsX6_depth (wsV RX6 97 RX6 yX6_waterAt wsX6_waterAt) := goodIn_app (goodIn_of _ (by decide +kernel)) ggX6_depth_X6_waterAt
set_option maxRecDepth 20000 in
theorem ggX6_depth_X5_decimetres : GoodIn wsX6_depth wsX5_decimetres := goodIn_r _ [15, 16, 17, 18, 14, 19, 20, 21, 22, 23, 24, 25, 26, 27, 28, 44, 45] (by decide +kernel) (by decide +kernel)
set_option maxRecDepth 20000 in
theorem gX6_depth_X5_decimetres : GoodIn wsX6_depth (wsV RX6 192 RX5 yX5_decimetres wsX5_decimetres) := goodIn_app (goodIn_of _ (by decide +kernel)) ggX6_depth_X5_decimetres
theorem dX6_depth_0 : decode cX6_depth 0 = .ok (.iload_n 1, 1) := by decide +kernel
theorem dX6_depth_1 : decode cX6_depth 1 = .ok (.invokestatic 93, 3) := by decide +kernel
theorem dX6_depth_4 : decode cX6_depth 4 = .ok (.ifCond .eq 14, 3) := by decide +kernel
theorem dX6_depth_7 : decode cX6_depth 7 = .ok (.aload_n 0, 1) := by decide +kernel
theorem dX6_depth_8 : decode cX6_depth 8 = .ok (.iload_n 1, 1) := by decide +kernel
theorem dX6_depth_9 : decode cX6_depth 9 = .ok (.invokevirtual 97, 3) := by decide +kernel
theorem dX6_depth_12 : decode cX6_depth 12 = .ok (.invokevirtual 192, 3) := by decide +kernel
theorem dX6_depth_15 : decode cX6_depth 15 = .ok (.goto 4, 3) := by decide +kernel
theorem dX6_depth_18 : decode cX6_depth 18 = .ok (.iconst 0, 1) := by decide +kernel
theorem dX6_depth_19 : decode cX6_depth 19 = .ok (.ireturn, 1) := by decide +kernel
set_option maxRecDepth 20000 in
theorem ggX6_look_Jx4a65c_size_8abf5 : GoodIn wsX6_look wsJx4a65c_size_8abf5 := goodIn_r _ [14, 15, 99, 100, 101] (by decide +kernel) (by decide +kernel)
set_option maxRecDepth 20000 in
theorem gX6_look_Jx4a65c_size_8abf5_f116Jx4a65c : GoodIn wsX6_look (va_wsF RX6 116 RJx4a65c ⟨"java/util/List", "size", "()I"⟩ yJx4a65c_size_8abf5 wsJx4a65c_size_8abf5) := goodIn_app (goodIn_of _ (by decide +kernel)) ggX6_look_Jx4a65c_size_8abf5
set_option maxRecDepth 20000 in
theorem ggX6_look_X6_within : GoodIn wsX6_look wsX6_within := goodIn_r _ [19] (by decide +kernel) (by decide +kernel)
set_option maxRecDepth 20000 in
theorem gX6_look_X6_within : GoodIn wsX6_look (va_wsS RX6 82 yX6_within wsX6_within) := goodIn_app (goodIn_of _ (by decide +kernel)) ggX6_look_X6_within
set_option maxRecDepth 20000 in
theorem ggX6_look_Jx4a65c_get_915e3 : GoodIn wsX6_look wsJx4a65c_get_915e3 := goodIn_r _ [23, 15, 24, 25, 26, 27, 28, 29, 30, 31, 32, 33, 34, 13, 35, 36, 99, 100, 101] (by decide +kernel) (by decide +kernel)
set_option maxRecDepth 20000 in
theorem gX6_look_Jx4a65c_get_915e3_f138Jx4a65c : GoodIn wsX6_look (va_wsF RX6 138 RJx4a65c ⟨"java/util/List", "get", "(I)Ljava/lang/Object;"⟩ yJx4a65c_get_915e3 wsJx4a65c_get_915e3) := goodIn_app (goodIn_of _ (by decide +kernel)) ggX6_look_Jx4a65c_get_915e3
set_option maxRecDepth 20000 in
theorem ggX6_look_X6_isFit : GoodIn wsX6_look wsX6_isFit := goodIn_r _ [40, 6, 41, 5, 42, 43, 44, 45, 46, 47, 48, 49, 50, 51, 52, 53, 54, 55, 56, 57, 58, 59, 60, 61, 62, 63, 64, 65, 66, 67, 68, 91, 92, 93, 94, 95, 96, 97, 98, 76, 77, 78, 79, 80, 81, 82, 83, 84, 85, 86, 87, 88, 89, 90, 102, 103, 104, 105, 106, 107, 108] (by decide +kernel) (by decide +kernel)
set_option maxRecDepth 20000 in
theorem gX6_look_X6_isFit : GoodIn wsX6_look (wsV RX6 213 RX6 yX6_isFit wsX6_isFit) := goodIn_app (goodIn_of _ (by decide +kernel)) ggX6_look_X6_isFit
set_option maxRecDepth 20000 in
theorem ggX6_look_X0_waited : GoodIn wsX6_look wsX0_waited := goodIn_r _ [73, 74, 75, 91, 92, 93, 94, 95, 96, 97, 98] (by decide +kernel) (by decide +kernel)
set_option maxRecDepth 20000 in
theorem gX6_look_X0_waited : GoodIn wsX6_look (wsV RX6 220 RX0 yX0_waited wsX0_waited) := goodIn_app (goodIn_of _ (by decide +kernel)) ggX6_look_X0_waited
theorem dX6_look_0 : decode cX6_look 0 = .ok (.iload_n 1, 1) := by decide +kernel
theorem dX6_look_1 : decode cX6_look 1 = .ok (.iconst 0, 1) := by decide +kernel
theorem dX6_look_2 : decode cX6_look 2 = .ok (.aload_n 0, 1) := by decide +kernel
theorem dX6_look_3 : decode cX6_look 3 = .ok (.getfield 56, 3) := by decide +kernel
theorem dX6_look_6 : decode cX6_look 6 = .ok (.invokeinterface 116 1, 5) := by decide +kernel
theorem dX6_look_11 : decode cX6_look 11 = .ok (.iconst 1, 1) := by decide +kernel
theorem dX6_look_12 : decode cX6_look 12 = .ok (.isub, 1) := by decide +kernel
theorem dX6_look_13 : decode cX6_look 13 = .ok (.invokestatic 82, 3) := by decide +kernel
theorem dX6_look_16 : decode cX6_look 16 = .ok (.ifCond .ne 5, 3) := by decide +kernel
theorem dX6_look_19 : decode cX6_look 19 = .ok (.iconst (-1), 1) := by decide +kernel
theorem dX6_look_20 : decode cX6_look 20 = .ok (.ireturn, 1) := by decide +kernel
theorem dX6_look_21 : decode cX6_look 21 = .ok (.aload_n 0, 1) := by decide +kernel
theorem dX6_look_22 : decode cX6_look 22 = .ok (.getfield 56, 3) := by decide +kernel
theorem dX6_look_25 : decode cX6_look 25 = .ok (.iload_n 1, 1) := by decide +kernel
theorem dX6_look_26 : decode cX6_look 26 = .ok (.invokeinterface 138 2, 5) := by decide +kernel
theorem dX6_look_31 : decode cX6_look 31 = .ok (.checkcast 119, 3) := by decide +kernel
theorem dX6_look_34 : decode cX6_look 34 = .ok (.astore_n 3, 1) := by decide +kernel
theorem dX6_look_35 : decode cX6_look 35 = .ok (.iload_n 2, 1) := by decide +kernel
theorem dX6_look_36 : decode cX6_look 36 = .ok (.tableswitch 106 0 8 #[52, 57, 62, 67, 72, 77, 82, 96, 101], 52) := by decide +kernel
theorem dX6_look_88 : decode cX6_look 88 = .ok (.aload_n 3, 1) := by decide +kernel
theorem dX6_look_89 : decode cX6_look 89 = .ok (.getfield 195, 3) := by decide +kernel
theorem dX6_look_92 : decode cX6_look 92 = .ok (.ireturn, 1) := by decide +kernel
theorem dX6_look_93 : decode cX6_look 93 = .ok (.aload_n 3, 1) := by decide +kernel
theorem dX6_look_94 : decode cX6_look 94 = .ok (.getfield 198, 3) := by decide +kernel
theorem dX6_look_97 : decode cX6_look 97 = .ok (.ireturn, 1) := by decide +kernel
theorem dX6_look_98 : decode cX6_look 98 = .ok (.aload_n 3, 1) := by decide +kernel
theorem dX6_look_99 : decode cX6_look 99 = .ok (.getfield 201, 3) := by decide +kernel
theorem dX6_look_102 : decode cX6_look 102 = .ok (.ireturn, 1) := by decide +kernel
theorem dX6_look_103 : decode cX6_look 103 = .ok (.aload_n 3, 1) := by decide +kernel
theorem dX6_look_104 : decode cX6_look 104 = .ok (.getfield 204, 3) := by decide +kernel
theorem dX6_look_107 : decode cX6_look 107 = .ok (.ireturn, 1) := by decide +kernel
theorem dX6_look_108 : decode cX6_look 108 = .ok (.aload_n 3, 1) := by decide +kernel
theorem dX6_look_109 : decode cX6_look 109 = .ok (.getfield 207, 3) := by decide +kernel
theorem dX6_look_112 : decode cX6_look 112 = .ok (.ireturn, 1) := by decide +kernel
theorem dX6_look_113 : decode cX6_look 113 = .ok (.aload_n 3, 1) := by decide +kernel
theorem dX6_look_114 : decode cX6_look 114 = .ok (.getfield 210, 3) := by decide +kernel
theorem dX6_look_117 : decode cX6_look 117 = .ok (.ireturn, 1) := by decide +kernel
theorem dX6_look_118 : decode cX6_look 118 = .ok (.aload_n 0, 1) := by decide +kernel
theorem dX6_look_119 : decode cX6_look 119 = .ok (.aload_n 3, 1) := by decide +kernel
theorem dX6_look_120 : decode cX6_look 120 = .ok (.invokevirtual 213, 3) := by decide +kernel
theorem dX6_look_123 : decode cX6_look 123 = .ok (.ifCond .eq 7, 3) := by decide +kernel
theorem dX6_look_126 : decode cX6_look 126 = .ok (.iconst 1, 1) := by decide +kernel
theorem dX6_look_127 : decode cX6_look 127 = .ok (.goto 4, 3) := by decide +kernel
theorem dX6_look_130 : decode cX6_look 130 = .ok (.iconst 0, 1) := by decide +kernel
theorem dX6_look_131 : decode cX6_look 131 = .ok (.ireturn, 1) := by decide +kernel
theorem dX6_look_132 : decode cX6_look 132 = .ok (.aload_n 3, 1) := by decide +kernel
theorem dX6_look_133 : decode cX6_look 133 = .ok (.getfield 217, 3) := by decide +kernel
theorem dX6_look_136 : decode cX6_look 136 = .ok (.ireturn, 1) := by decide +kernel
theorem dX6_look_137 : decode cX6_look 137 = .ok (.aload_n 3, 1) := by decide +kernel
theorem dX6_look_138 : decode cX6_look 138 = .ok (.invokevirtual 220, 3) := by decide +kernel
theorem dX6_look_141 : decode cX6_look 141 = .ok (.ireturn, 1) := by decide +kernel
theorem dX6_look_142 : decode cX6_look 142 = .ok (.iconst (-1), 1) := by decide +kernel
theorem dX6_look_143 : decode cX6_look 143 = .ok (.ireturn, 1) := by decide +kernel
set_option maxRecDepth 20000 in
theorem ggX6_count_X6_within : GoodIn wsX6_count wsX6_within := goodIn_r _ [16] (by decide +kernel) (by decide +kernel)
set_option maxRecDepth 20000 in
theorem gX6_count_X6_within : GoodIn wsX6_count (va_wsS RX6 82 yX6_within wsX6_within) := goodIn_app (goodIn_of _ (by decide +kernel)) ggX6_count_X6_within
set_option maxRecDepth 20000 in
theorem ggX6_count_X1_number : GoodIn wsX6_count wsX1_number := goodIn_r _ [21, 22, 56, 57, 58, 59, 60] (by decide +kernel) (by decide +kernel)
set_option maxRecDepth 20000 in
theorem gX6_count_X1_number : GoodIn wsX6_count (wsV RX6 158 RX1 yX1_number wsX1_number) := goodIn_app (goodIn_of _ (by decide +kernel)) ggX6_count_X1_number
set_option maxRecDepth 20000 in
theorem ggX6_count_Jx4a65c_size_8abf5 : GoodIn wsX6_count wsJx4a65c_size_8abf5 := goodIn_r _ [27, 28, 61, 62, 63] (by decide +kernel) (by decide +kernel)
set_option maxRecDepth 20000 in
theorem gX6_count_Jx4a65c_size_8abf5_f116Jx4a65c : GoodIn wsX6_count (va_wsF RX6 116 RJx4a65c ⟨"java/util/List", "size", "()I"⟩ yJx4a65c_size_8abf5 wsJx4a65c_size_8abf5) := goodIn_app (goodIn_of _ (by decide +kernel)) ggX6_count_Jx4a65c_size_8abf5
set_option maxRecDepth 20000 in
theorem ggX6_count_X3_size : GoodIn wsX6_count wsX3_size := goodIn_r _ [33, 34, 64, 65] (by decide +kernel) (by decide +kernel)
set_option maxRecDepth 20000 in
theorem gX6_count_X3_size : GoodIn wsX6_count (wsV RX6 78 RX3 yX3_size wsX3_size) := goodIn_app (goodIn_of _ (by decide +kernel)) ggX6_count_X3_size
set_option maxRecDepth 20000 in
theorem ggX6_count_X5_spread : GoodIn wsX6_count wsX5_spread := goodIn_r _ [39, 40, 66, 67] (by decide +kernel) (by decide +kernel)
set_option maxRecDepth 20000 in
theorem gX6_count_X5_spread : GoodIn wsX6_count (wsV RX6 229 RX5 yX5_spread wsX5_spread) := goodIn_app (goodIn_of _ (by decide +kernel)) ggX6_count_X5_spread
theorem dX6_count_0 : decode cX6_count 0 = .ok (.iload_n 1, 1) := by decide +kernel
theorem dX6_count_1 : decode cX6_count 1 = .ok (.bipush 10, 2) := by decide +kernel
theorem dX6_count_3 : decode cX6_count 3 = .ok (.bipush 15, 2) := by decide +kernel
theorem dX6_count_5 : decode cX6_count 5 = .ok (.invokestatic 82, 3) := by decide +kernel
theorem dX6_count_8 : decode cX6_count 8 = .ok (.ifCond .eq 15, 3) := by decide +kernel
theorem dX6_count_11 : decode cX6_count 11 = .ok (.aload_n 0, 1) := by decide +kernel
theorem dX6_count_12 : decode cX6_count 12 = .ok (.getfield 21, 3) := by decide +kernel
theorem dX6_count_15 : decode cX6_count 15 = .ok (.iload_n 1, 1) := by decide +kernel
theorem dX6_count_16 : decode cX6_count 16 = .ok (.bipush 10, 2) := by decide +kernel
theorem dX6_count_18 : decode cX6_count 18 = .ok (.isub, 1) := by decide +kernel
theorem dX6_count_19 : decode cX6_count 19 = .ok (.invokevirtual 158, 3) := by decide +kernel
theorem dX6_count_22 : decode cX6_count 22 = .ok (.ireturn, 1) := by decide +kernel
theorem dX6_count_23 : decode cX6_count 23 = .ok (.iload_n 1, 1) := by decide +kernel
theorem dX6_count_24 : decode cX6_count 24 = .ok (.tableswitch 173 0 21 #[104, 109, 114, 119, 124, 129, 139, 144, 152, 173, 173, 173, 173, 173, 173, 173, 173, 173, 173, 173, 157, 165], 104) := by decide +kernel
theorem dX6_count_128 : decode cX6_count 128 = .ok (.aload_n 0, 1) := by decide +kernel
theorem dX6_count_129 : decode cX6_count 129 = .ok (.getfield 63, 3) := by decide +kernel
theorem dX6_count_132 : decode cX6_count 132 = .ok (.ireturn, 1) := by decide +kernel
theorem dX6_count_133 : decode cX6_count 133 = .ok (.aload_n 0, 1) := by decide +kernel
theorem dX6_count_134 : decode cX6_count 134 = .ok (.getfield 67, 3) := by decide +kernel
theorem dX6_count_137 : decode cX6_count 137 = .ok (.ireturn, 1) := by decide +kernel
theorem dX6_count_138 : decode cX6_count 138 = .ok (.aload_n 0, 1) := by decide +kernel
theorem dX6_count_139 : decode cX6_count 139 = .ok (.getfield 149, 3) := by decide +kernel
theorem dX6_count_142 : decode cX6_count 142 = .ok (.ireturn, 1) := by decide +kernel
theorem dX6_count_143 : decode cX6_count 143 = .ok (.aload_n 0, 1) := by decide +kernel
theorem dX6_count_144 : decode cX6_count 144 = .ok (.getfield 155, 3) := by decide +kernel
theorem dX6_count_147 : decode cX6_count 147 = .ok (.ireturn, 1) := by decide +kernel
theorem dX6_count_148 : decode cX6_count 148 = .ok (.aload_n 0, 1) := by decide +kernel
theorem dX6_count_149 : decode cX6_count 149 = .ok (.getfield 170, 3) := by decide +kernel
theorem dX6_count_152 : decode cX6_count 152 = .ok (.ireturn, 1) := by decide +kernel
theorem dX6_count_153 : decode cX6_count 153 = .ok (.aload_n 0, 1) := by decide +kernel
theorem dX6_count_154 : decode cX6_count 154 = .ok (.getfield 56, 3) := by decide +kernel
theorem dX6_count_157 : decode cX6_count 157 = .ok (.invokeinterface 116 1, 5) := by decide +kernel
theorem dX6_count_162 : decode cX6_count 162 = .ok (.ireturn, 1) := by decide +kernel
theorem dX6_count_163 : decode cX6_count 163 = .ok (.aload_n 0, 1) := by decide +kernel
theorem dX6_count_164 : decode cX6_count 164 = .ok (.getfield 223, 3) := by decide +kernel
theorem dX6_count_167 : decode cX6_count 167 = .ok (.ireturn, 1) := by decide +kernel
theorem dX6_count_168 : decode cX6_count 168 = .ok (.aload_n 0, 1) := by decide +kernel
theorem dX6_count_169 : decode cX6_count 169 = .ok (.getfield 10, 3) := by decide +kernel
theorem dX6_count_172 : decode cX6_count 172 = .ok (.invokevirtual 78, 3) := by decide +kernel
theorem dX6_count_175 : decode cX6_count 175 = .ok (.ireturn, 1) := by decide +kernel
theorem dX6_count_176 : decode cX6_count 176 = .ok (.aload_n 0, 1) := by decide +kernel
theorem dX6_count_177 : decode cX6_count 177 = .ok (.getfield 226, 3) := by decide +kernel
theorem dX6_count_180 : decode cX6_count 180 = .ok (.ireturn, 1) := by decide +kernel
theorem dX6_count_181 : decode cX6_count 181 = .ok (.aload_n 0, 1) := by decide +kernel
theorem dX6_count_182 : decode cX6_count 182 = .ok (.getfield 46, 3) := by decide +kernel
theorem dX6_count_185 : decode cX6_count 185 = .ok (.invokevirtual 229, 3) := by decide +kernel
theorem dX6_count_188 : decode cX6_count 188 = .ok (.ireturn, 1) := by decide +kernel
theorem dX6_count_189 : decode cX6_count 189 = .ok (.aload_n 0, 1) := by decide +kernel
theorem dX6_count_190 : decode cX6_count 190 = .ok (.getfield 50, 3) := by decide +kernel
theorem dX6_count_193 : decode cX6_count 193 = .ok (.invokevirtual 229, 3) := by decide +kernel
theorem dX6_count_196 : decode cX6_count 196 = .ok (.ireturn, 1) := by decide +kernel
theorem dX6_count_197 : decode cX6_count 197 = .ok (.iconst (-1), 1) := by decide +kernel
theorem dX6_count_198 : decode cX6_count 198 = .ok (.ireturn, 1) := by decide +kernel
theorem dX6_within_0 : decode cX6_within 0 = .ok (.iload_n 0, 1) := by decide +kernel
theorem dX6_within_1 : decode cX6_within 1 = .ok (.iload_n 1, 1) := by decide +kernel
theorem dX6_within_2 : decode cX6_within 2 = .ok (.if_icmp .lt 12, 3) := by decide +kernel
theorem dX6_within_5 : decode cX6_within 5 = .ok (.iload_n 0, 1) := by decide +kernel
theorem dX6_within_6 : decode cX6_within 6 = .ok (.iload_n 2, 1) := by decide +kernel
theorem dX6_within_7 : decode cX6_within 7 = .ok (.if_icmp .gt 7, 3) := by decide +kernel
theorem dX6_within_10 : decode cX6_within 10 = .ok (.iconst 1, 1) := by decide +kernel
theorem dX6_within_11 : decode cX6_within 11 = .ok (.goto 4, 3) := by decide +kernel
theorem dX6_within_14 : decode cX6_within 14 = .ok (.iconst 0, 1) := by decide +kernel
theorem dX6_within_15 : decode cX6_within 15 = .ok (.ireturn, 1) := by decide +kernel
theorem dX6_isSide_0 : decode cX6_isSide 0 = .ok (.iload_n 0, 1) := by decide +kernel
theorem dX6_isSide_1 : decode cX6_isSide 1 = .ok (.ifCond .eq 8, 3) := by decide +kernel
theorem dX6_isSide_4 : decode cX6_isSide 4 = .ok (.iload_n 0, 1) := by decide +kernel
theorem dX6_isSide_5 : decode cX6_isSide 5 = .ok (.iconst 1, 1) := by decide +kernel
theorem dX6_isSide_6 : decode cX6_isSide 6 = .ok (.if_icmp .ne 7, 3) := by decide +kernel
theorem dX6_isSide_9 : decode cX6_isSide 9 = .ok (.iconst 1, 1) := by decide +kernel
theorem dX6_isSide_10 : decode cX6_isSide 10 = .ok (.goto 4, 3) := by decide +kernel
theorem dX6_isSide_13 : decode cX6_isSide 13 = .ok (.iconst 0, 1) := by decide +kernel
theorem dX6_isSide_14 : decode cX6_isSide 14 = .ok (.ireturn, 1) := by decide +kernel
set_option maxRecDepth 20000 in
theorem ggX6_isMinute_X6_within : GoodIn wsX6_isMinute wsX6_within := goodIn_r _ [4] (by decide +kernel) (by decide +kernel)
set_option maxRecDepth 20000 in
theorem gX6_isMinute_X6_within : GoodIn wsX6_isMinute (va_wsS RX6 82 yX6_within wsX6_within) := goodIn_app (goodIn_of _ (by decide +kernel)) ggX6_isMinute_X6_within
theorem dX6_isMinute_0 : decode cX6_isMinute 0 = .ok (.iload_n 0, 1) := by decide +kernel
theorem dX6_isMinute_1 : decode cX6_isMinute 1 = .ok (.iconst 0, 1) := by decide +kernel
theorem dX6_isMinute_2 : decode cX6_isMinute 2 = .ok (.sipush 20000, 3) := by decide +kernel
theorem dX6_isMinute_5 : decode cX6_isMinute 5 = .ok (.invokestatic 82, 3) := by decide +kernel
theorem dX6_isMinute_8 : decode cX6_isMinute 8 = .ok (.ireturn, 1) := by decide +kernel
theorem dX6_otherSide_0 : decode cX6_otherSide 0 = .ok (.iload_n 0, 1) := by decide +kernel
theorem dX6_otherSide_1 : decode cX6_otherSide 1 = .ok (.ifCond .ne 7, 3) := by decide +kernel
theorem dX6_otherSide_4 : decode cX6_otherSide 4 = .ok (.iconst 1, 1) := by decide +kernel
theorem dX6_otherSide_5 : decode cX6_otherSide 5 = .ok (.goto 4, 3) := by decide +kernel
theorem dX6_otherSide_8 : decode cX6_otherSide 8 = .ok (.iconst 0, 1) := by decide +kernel
theorem dX6_otherSide_9 : decode cX6_otherSide 9 = .ok (.ireturn, 1) := by decide +kernel
theorem dX6_waterAt_0 : decode cX6_waterAt 0 = .ok (.iload_n 1, 1) := by decide +kernel
theorem dX6_waterAt_1 : decode cX6_waterAt 1 = .ok (.ifCond .ne 10, 3) := by decide +kernel
theorem dX6_waterAt_4 : decode cX6_waterAt 4 = .ok (.aload_n 0, 1) := by decide +kernel
theorem dX6_waterAt_5 : decode cX6_waterAt 5 = .ok (.getfield 46, 3) := by decide +kernel
theorem dX6_waterAt_8 : decode cX6_waterAt 8 = .ok (.goto 7, 3) := by decide +kernel
theorem dX6_waterAt_11 : decode cX6_waterAt 11 = .ok (.aload_n 0, 1) := by decide +kernel
theorem dX6_waterAt_12 : decode cX6_waterAt 12 = .ok (.getfield 50, 3) := by decide +kernel
theorem dX6_waterAt_15 : decode cX6_waterAt 15 = .ok (.areturn, 1) := by decide +kernel
set_option maxRecDepth 20000 in
theorem ggX6_sendDown_X5_gain : GoodIn wsX6_sendDown wsX5_gain := goodIn_r _ [7, 8, 24, 25] (by decide +kernel) (by decide +kernel)
set_option maxRecDepth 20000 in
theorem gX6_sendDown_X5_gain : GoodIn wsX6_sendDown (wsV RX6 106 RX5 yX5_gain wsX5_gain) := goodIn_app (goodIn_of _ (by decide +kernel)) ggX6_sendDown_X5_gain
theorem dX6_sendDown_0 : decode cX6_sendDown 0 = .ok (.aload_n 0, 1) := by decide +kernel
theorem dX6_sendDown_1 : decode cX6_sendDown 1 = .ok (.getfield 50, 3) := by decide +kernel
theorem dX6_sendDown_4 : decode cX6_sendDown 4 = .ok (.iload_n 1, 1) := by decide +kernel
theorem dX6_sendDown_5 : decode cX6_sendDown 5 = .ok (.ineg, 1) := by decide +kernel
theorem dX6_sendDown_6 : decode cX6_sendDown 6 = .ok (.invokevirtual 106, 3) := by decide +kernel
theorem dX6_sendDown_9 : decode cX6_sendDown 9 = .ok (.aload_n 0, 1) := by decide +kernel
theorem dX6_sendDown_10 : decode cX6_sendDown 10 = .ok (.getfield 46, 3) := by decide +kernel
theorem dX6_sendDown_13 : decode cX6_sendDown 13 = .ok (.iload_n 1, 1) := by decide +kernel
theorem dX6_sendDown_14 : decode cX6_sendDown 14 = .ok (.invokevirtual 106, 3) := by decide +kernel
theorem dX6_sendDown_17 : decode cX6_sendDown 17 = .ok (.return_, 1) := by decide +kernel
set_option maxRecDepth 20000 in
theorem ggX6_isFit_X1_number : GoodIn wsX6_isFit wsX1_number := goodIn_r _ [11, 12, 54, 55, 56, 57, 58] (by decide +kernel) (by decide +kernel)
set_option maxRecDepth 20000 in
theorem gX6_isFit_X1_number : GoodIn wsX6_isFit (wsV RX6 158 RX1 yX1_number wsX1_number) := goodIn_app (goodIn_of _ (by decide +kernel)) ggX6_isFit_X1_number
set_option maxRecDepth 20000 in
theorem ggX6_isFit_X5_decimetres : GoodIn wsX6_isFit wsX5_decimetres := goodIn_r _ [17, 18, 19, 20, 16, 21, 22, 23, 24, 25, 26, 27, 28, 29, 30, 59, 60] (by decide +kernel) (by decide +kernel)
set_option maxRecDepth 20000 in
theorem gX6_isFit_X5_decimetres : GoodIn wsX6_isFit (wsV RX6 192 RX5 yX5_decimetres wsX5_decimetres) := goodIn_app (goodIn_of _ (by decide +kernel)) ggX6_isFit_X5_decimetres
theorem dX6_isFit_0 : decode cX6_isFit 0 = .ok (.aload_n 1, 1) := by decide +kernel
theorem dX6_isFit_1 : decode cX6_isFit 1 = .ok (.getfield 204, 3) := by decide +kernel
theorem dX6_isFit_4 : decode cX6_isFit 4 = .ok (.aload_n 0, 1) := by decide +kernel
theorem dX6_isFit_5 : decode cX6_isFit 5 = .ok (.getfield 21, 3) := by decide +kernel
theorem dX6_isFit_8 : decode cX6_isFit 8 = .ok (.iconst 3, 1) := by decide +kernel
theorem dX6_isFit_9 : decode cX6_isFit 9 = .ok (.invokevirtual 158, 3) := by decide +kernel
theorem dX6_isFit_12 : decode cX6_isFit 12 = .ok (.iadd, 1) := by decide +kernel
theorem dX6_isFit_13 : decode cX6_isFit 13 = .ok (.istore_n 2, 1) := by decide +kernel
theorem dX6_isFit_14 : decode cX6_isFit 14 = .ok (.aload_n 1, 1) := by decide +kernel
theorem dX6_isFit_15 : decode cX6_isFit 15 = .ok (.getfield 201, 3) := by decide +kernel
theorem dX6_isFit_18 : decode cX6_isFit 18 = .ok (.aload_n 0, 1) := by decide +kernel
theorem dX6_isFit_19 : decode cX6_isFit 19 = .ok (.getfield 63, 3) := by decide +kernel
theorem dX6_isFit_22 : decode cX6_isFit 22 = .ok (.if_icmp .gt 29, 3) := by decide +kernel
theorem dX6_isFit_25 : decode cX6_isFit 25 = .ok (.iload_n 2, 1) := by decide +kernel
theorem dX6_isFit_26 : decode cX6_isFit 26 = .ok (.aload_n 0, 1) := by decide +kernel
theorem dX6_isFit_27 : decode cX6_isFit 27 = .ok (.getfield 46, 3) := by decide +kernel
theorem dX6_isFit_30 : decode cX6_isFit 30 = .ok (.invokevirtual 192, 3) := by decide +kernel
theorem dX6_isFit_33 : decode cX6_isFit 33 = .ok (.if_icmp .gt 18, 3) := by decide +kernel
theorem dX6_isFit_36 : decode cX6_isFit 36 = .ok (.iload_n 2, 1) := by decide +kernel
theorem dX6_isFit_37 : decode cX6_isFit 37 = .ok (.aload_n 0, 1) := by decide +kernel
theorem dX6_isFit_38 : decode cX6_isFit 38 = .ok (.getfield 50, 3) := by decide +kernel
theorem dX6_isFit_41 : decode cX6_isFit 41 = .ok (.invokevirtual 192, 3) := by decide +kernel
theorem dX6_isFit_44 : decode cX6_isFit 44 = .ok (.if_icmp .gt 7, 3) := by decide +kernel
theorem dX6_isFit_47 : decode cX6_isFit 47 = .ok (.iconst 1, 1) := by decide +kernel
theorem dX6_isFit_48 : decode cX6_isFit 48 = .ok (.goto 4, 3) := by decide +kernel
theorem dX6_isFit_51 : decode cX6_isFit 51 = .ok (.iconst 0, 1) := by decide +kernel
theorem dX6_isFit_52 : decode cX6_isFit 52 = .ok (.ireturn, 1) := by decide +kernel
set_option maxRecDepth 20000 in
theorem ggX6_isLeft_X6_isFit : GoodIn wsX6_isLeft wsX6_isFit := goodIn_r _ [6, 7, 8, 9, 10, 11, 12, 13, 14, 15, 16, 17, 18, 19, 20, 21, 22, 23, 24, 25, 26, 27, 28, 29, 30, 31, 32, 33, 34, 35, 36, 37, 38, 39, 40, 41, 42, 43, 44, 45, 46, 47, 48, 49, 50, 51, 52, 53, 54, 55, 56, 57, 58, 59, 60, 61, 62, 63, 64, 65, 66] (by decide +kernel) (by decide +kernel)
set_option maxRecDepth 20000 in
theorem gX6_isLeft_X6_isFit : GoodIn wsX6_isLeft (wsV RX6 213 RX6 yX6_isFit wsX6_isFit) := goodIn_app (goodIn_of _ (by decide +kernel)) ggX6_isLeft_X6_isFit
theorem dX6_isLeft_0 : decode cX6_isLeft 0 = .ok (.aload_n 1, 1) := by decide +kernel
theorem dX6_isLeft_1 : decode cX6_isLeft 1 = .ok (.getfield 217, 3) := by decide +kernel
theorem dX6_isLeft_4 : decode cX6_isLeft 4 = .ok (.iconst (-1), 1) := by decide +kernel
theorem dX6_isLeft_5 : decode cX6_isLeft 5 = .ok (.if_icmp .ne 15, 3) := by decide +kernel
theorem dX6_isLeft_8 : decode cX6_isLeft 8 = .ok (.aload_n 0, 1) := by decide +kernel
theorem dX6_isLeft_9 : decode cX6_isLeft 9 = .ok (.aload_n 1, 1) := by decide +kernel
theorem dX6_isLeft_10 : decode cX6_isLeft 10 = .ok (.invokevirtual 213, 3) := by decide +kernel
theorem dX6_isLeft_13 : decode cX6_isLeft 13 = .ok (.ifCond .eq 7, 3) := by decide +kernel
theorem dX6_isLeft_16 : decode cX6_isLeft 16 = .ok (.iconst 1, 1) := by decide +kernel
theorem dX6_isLeft_17 : decode cX6_isLeft 17 = .ok (.goto 4, 3) := by decide +kernel
theorem dX6_isLeft_20 : decode cX6_isLeft 20 = .ok (.iconst 0, 1) := by decide +kernel
theorem dX6_isLeft_21 : decode cX6_isLeft 21 = .ok (.ireturn, 1) := by decide +kernel
set_option maxRecDepth 20000 in
theorem ggX6_isQueued_X6_isLeft : GoodIn wsX6_isQueued wsX6_isLeft := goodIn_r _ [7, 8, 9, 10, 11, 6, 12, 13, 14, 15, 16, 17, 18, 19, 20, 21, 22, 23, 24, 25, 26, 27, 28, 29, 30, 31, 32, 33, 34, 35, 36, 37, 38, 39, 40, 41, 42, 43, 44, 45, 46, 47, 48, 49, 50, 51, 52, 53, 54, 55, 56, 57, 58, 59, 60, 61, 62, 63, 64, 65, 66, 67, 68, 69, 70, 71, 72] (by decide +kernel) (by decide +kernel)
set_option maxRecDepth 20000 in
theorem gX6_isQueued_X6_isLeft : GoodIn wsX6_isQueued (wsV RX6 232 RX6 yX6_isLeft wsX6_isLeft) := goodIn_app (goodIn_of _ (by decide +kernel)) ggX6_isQueued_X6_isLeft
theorem dX6_isQueued_0 : decode cX6_isQueued 0 = .ok (.aload_n 1, 1) := by decide +kernel
theorem dX6_isQueued_1 : decode cX6_isQueued 1 = .ok (.getfield 195, 3) := by decide +kernel
theorem dX6_isQueued_4 : decode cX6_isQueued 4 = .ok (.iload_n 2, 1) := by decide +kernel
theorem dX6_isQueued_5 : decode cX6_isQueued 5 = .ok (.if_icmp .ne 23, 3) := by decide +kernel
theorem dX6_isQueued_8 : decode cX6_isQueued 8 = .ok (.aload_n 1, 1) := by decide +kernel
theorem dX6_isQueued_9 : decode cX6_isQueued 9 = .ok (.getfield 198, 3) := by decide +kernel
theorem dX6_isQueued_12 : decode cX6_isQueued 12 = .ok (.iload_n 3, 1) := by decide +kernel
theorem dX6_isQueued_13 : decode cX6_isQueued 13 = .ok (.if_icmp .gt 15, 3) := by decide +kernel
theorem dX6_isQueued_16 : decode cX6_isQueued 16 = .ok (.aload_n 0, 1) := by decide +kernel
theorem dX6_isQueued_17 : decode cX6_isQueued 17 = .ok (.aload_n 1, 1) := by decide +kernel
theorem dX6_isQueued_18 : decode cX6_isQueued 18 = .ok (.invokevirtual 232, 3) := by decide +kernel
theorem dX6_isQueued_21 : decode cX6_isQueued 21 = .ok (.ifCond .eq 7, 3) := by decide +kernel
theorem dX6_isQueued_24 : decode cX6_isQueued 24 = .ok (.iconst 1, 1) := by decide +kernel
theorem dX6_isQueued_25 : decode cX6_isQueued 25 = .ok (.goto 4, 3) := by decide +kernel
theorem dX6_isQueued_28 : decode cX6_isQueued 28 = .ok (.iconst 0, 1) := by decide +kernel
theorem dX6_isQueued_29 : decode cX6_isQueued 29 = .ok (.ireturn, 1) := by decide +kernel
set_option maxRecDepth 20000 in
theorem ggX6_turnOf_Jx4a65c_size_8abf5 : GoodIn wsX6_turnOf wsJx4a65c_size_8abf5 := goodIn_r _ [7, 8, 48, 49, 50] (by decide +kernel) (by decide +kernel)
set_option maxRecDepth 20000 in
theorem gX6_turnOf_Jx4a65c_size_8abf5_f116Jx4a65c : GoodIn wsX6_turnOf (va_wsF RX6 116 RJx4a65c ⟨"java/util/List", "size", "()I"⟩ yJx4a65c_size_8abf5 wsJx4a65c_size_8abf5) := goodIn_app (goodIn_of _ (by decide +kernel)) ggX6_turnOf_Jx4a65c_size_8abf5
set_option maxRecDepth 20000 in
theorem ggX6_turnOf_Jx4a65c_get_915e3 : GoodIn wsX6_turnOf wsJx4a65c_get_915e3 := goodIn_r _ [12, 8, 13, 14, 15, 16, 17, 18, 19, 20, 21, 22, 23, 6, 24, 25, 48, 49, 50] (by decide +kernel) (by decide +kernel)
set_option maxRecDepth 20000 in
theorem gX6_turnOf_Jx4a65c_get_915e3_f138Jx4a65c : GoodIn wsX6_turnOf (va_wsF RX6 138 RJx4a65c ⟨"java/util/List", "get", "(I)Ljava/lang/Object;"⟩ yJx4a65c_get_915e3 wsJx4a65c_get_915e3) := goodIn_app (goodIn_of _ (by decide +kernel)) ggX6_turnOf_Jx4a65c_get_915e3
set_option maxRecDepth 20000 in
theorem ggX6_turnOf_X0_goesAheadOf : GoodIn wsX6_turnOf wsX0_goesAheadOf := goodIn_r _ [30, 31, 32, 51, 52, 53, 54, 55, 56, 57, 58] (by decide +kernel) (by decide +kernel)
set_option maxRecDepth 20000 in
theorem gX6_turnOf_X0_goesAheadOf : GoodIn wsX6_turnOf (wsV RX6 235 RX0 yX0_goesAheadOf wsX0_goesAheadOf) := goodIn_app (goodIn_of _ (by decide +kernel)) ggX6_turnOf_X0_goesAheadOf
theorem dX6_turnOf_0 : decode cX6_turnOf 0 = .ok (.iconst 0, 1) := by decide +kernel
theorem dX6_turnOf_1 : decode cX6_turnOf 1 = .ok (.istore_n 2, 1) := by decide +kernel
theorem dX6_turnOf_2 : decode cX6_turnOf 2 = .ok (.iload_n 2, 1) := by decide +kernel
theorem dX6_turnOf_3 : decode cX6_turnOf 3 = .ok (.aload_n 0, 1) := by decide +kernel
theorem dX6_turnOf_4 : decode cX6_turnOf 4 = .ok (.getfield 60, 3) := by decide +kernel
theorem dX6_turnOf_7 : decode cX6_turnOf 7 = .ok (.invokeinterface 116 1, 5) := by decide +kernel
theorem dX6_turnOf_12 : decode cX6_turnOf 12 = .ok (.if_icmp .ge 29, 3) := by decide +kernel
theorem dX6_turnOf_15 : decode cX6_turnOf 15 = .ok (.aload_n 1, 1) := by decide +kernel
theorem dX6_turnOf_16 : decode cX6_turnOf 16 = .ok (.aload_n 0, 1) := by decide +kernel
theorem dX6_turnOf_17 : decode cX6_turnOf 17 = .ok (.getfield 60, 3) := by decide +kernel
theorem dX6_turnOf_20 : decode cX6_turnOf 20 = .ok (.iload_n 2, 1) := by decide +kernel
theorem dX6_turnOf_21 : decode cX6_turnOf 21 = .ok (.invokeinterface 138 2, 5) := by decide +kernel
theorem dX6_turnOf_26 : decode cX6_turnOf 26 = .ok (.checkcast 119, 3) := by decide +kernel
theorem dX6_turnOf_29 : decode cX6_turnOf 29 = .ok (.invokevirtual 235, 3) := by decide +kernel
theorem dX6_turnOf_32 : decode cX6_turnOf 32 = .ok (.ifCond .ne 9, 3) := by decide +kernel
theorem dX6_turnOf_35 : decode cX6_turnOf 35 = .ok (.iinc 2 1, 3) := by decide +kernel
theorem dX6_turnOf_38 : decode cX6_turnOf 38 = .ok (.goto (-36), 3) := by decide +kernel
theorem dX6_turnOf_41 : decode cX6_turnOf 41 = .ok (.iload_n 2, 1) := by decide +kernel
theorem dX6_turnOf_42 : decode cX6_turnOf 42 = .ok (.ireturn, 1) := by decide +kernel
set_option maxRecDepth 20000 in
theorem ggX6_fittingAt_Jx4a65c_size_8abf5 : GoodIn wsX6_fittingAt wsJx4a65c_size_8abf5 := goodIn_r _ [10, 11, 96, 97, 98] (by decide +kernel) (by decide +kernel)
set_option maxRecDepth 20000 in
theorem gX6_fittingAt_Jx4a65c_size_8abf5_f116Jx4a65c : GoodIn wsX6_fittingAt (va_wsF RX6 116 RJx4a65c ⟨"java/util/List", "size", "()I"⟩ yJx4a65c_size_8abf5 wsJx4a65c_size_8abf5) := goodIn_app (goodIn_of _ (by decide +kernel)) ggX6_fittingAt_Jx4a65c_size_8abf5
set_option maxRecDepth 20000 in
theorem ggX6_fittingAt_Jx4a65c_get_915e3 : GoodIn wsX6_fittingAt wsJx4a65c_get_915e3 := goodIn_r _ [15, 11, 16, 17, 18, 19, 20, 21, 22, 23, 24, 25, 26, 9, 27, 28, 96, 97, 98] (by decide +kernel) (by decide +kernel)
set_option maxRecDepth 20000 in
theorem gX6_fittingAt_Jx4a65c_get_915e3_f138Jx4a65c : GoodIn wsX6_fittingAt (va_wsF RX6 138 RJx4a65c ⟨"java/util/List", "get", "(I)Ljava/lang/Object;"⟩ yJx4a65c_get_915e3 wsJx4a65c_get_915e3) := goodIn_app (goodIn_of _ (by decide +kernel)) ggX6_fittingAt_Jx4a65c_get_915e3
set_option maxRecDepth 20000 in
theorem ggX6_fittingAt_X6_isQueued : GoodIn wsX6_fittingAt wsX6_isQueued := goodIn_r _ [33, 34, 35, 36, 37, 38, 32, 39, 40, 41, 42, 43, 44, 45, 46, 5, 1, 47, 48, 49, 50, 51, 52, 53, 54, 55, 56, 57, 58, 59, 60, 61, 62, 63, 64, 65, 66, 67, 68, 69, 70, 71, 72, 88, 89, 90, 91, 92, 93, 94, 95, 73, 74, 75, 76, 77, 78, 79, 80, 81, 82, 83, 84, 85, 86, 87, 99, 100, 101, 102, 103, 104, 105] (by decide +kernel) (by decide +kernel)
set_option maxRecDepth 20000 in
theorem gX6_fittingAt_X6_isQueued : GoodIn wsX6_fittingAt (wsV RX6 142 RX6 yX6_isQueued wsX6_isQueued) := goodIn_app (goodIn_of _ (by decide +kernel)) ggX6_fittingAt_X6_isQueued
theorem dX6_fittingAt_0 : decode cX6_fittingAt 0 = .ok (.aload_n 0, 1) := by decide +kernel
theorem dX6_fittingAt_1 : decode cX6_fittingAt 1 = .ok (.getfield 63, 3) := by decide +kernel
theorem dX6_fittingAt_4 : decode cX6_fittingAt 4 = .ok (.istore_n 2, 1) := by decide +kernel
theorem dX6_fittingAt_5 : decode cX6_fittingAt 5 = .ok (.iconst 0, 1) := by decide +kernel
theorem dX6_fittingAt_6 : decode cX6_fittingAt 6 = .ok (.istore_n 3, 1) := by decide +kernel
theorem dX6_fittingAt_7 : decode cX6_fittingAt 7 = .ok (.iconst 0, 1) := by decide +kernel
theorem dX6_fittingAt_8 : decode cX6_fittingAt 8 = .ok (.istore 4, 2) := by decide +kernel
theorem dX6_fittingAt_10 : decode cX6_fittingAt 10 = .ok (.iload 4, 2) := by decide +kernel
theorem dX6_fittingAt_12 : decode cX6_fittingAt 12 = .ok (.aload_n 0, 1) := by decide +kernel
theorem dX6_fittingAt_13 : decode cX6_fittingAt 13 = .ok (.getfield 60, 3) := by decide +kernel
theorem dX6_fittingAt_16 : decode cX6_fittingAt 16 = .ok (.invokeinterface 116 1, 5) := by decide +kernel
theorem dX6_fittingAt_21 : decode cX6_fittingAt 21 = .ok (.if_icmp .ge 56, 3) := by decide +kernel
theorem dX6_fittingAt_24 : decode cX6_fittingAt 24 = .ok (.aload_n 0, 1) := by decide +kernel
theorem dX6_fittingAt_25 : decode cX6_fittingAt 25 = .ok (.getfield 60, 3) := by decide +kernel
theorem dX6_fittingAt_28 : decode cX6_fittingAt 28 = .ok (.iload 4, 2) := by decide +kernel
theorem dX6_fittingAt_30 : decode cX6_fittingAt 30 = .ok (.invokeinterface 138 2, 5) := by decide +kernel
theorem dX6_fittingAt_35 : decode cX6_fittingAt 35 = .ok (.checkcast 119, 3) := by decide +kernel
theorem dX6_fittingAt_38 : decode cX6_fittingAt 38 = .ok (.astore 5, 2) := by decide +kernel
theorem dX6_fittingAt_40 : decode cX6_fittingAt 40 = .ok (.aload_n 0, 1) := by decide +kernel
theorem dX6_fittingAt_41 : decode cX6_fittingAt 41 = .ok (.aload 5, 2) := by decide +kernel
theorem dX6_fittingAt_43 : decode cX6_fittingAt 43 = .ok (.aload_n 0, 1) := by decide +kernel
theorem dX6_fittingAt_44 : decode cX6_fittingAt 44 = .ok (.getfield 67, 3) := by decide +kernel
theorem dX6_fittingAt_47 : decode cX6_fittingAt 47 = .ok (.iload_n 1, 1) := by decide +kernel
theorem dX6_fittingAt_48 : decode cX6_fittingAt 48 = .ok (.invokevirtual 142, 3) := by decide +kernel
theorem dX6_fittingAt_51 : decode cX6_fittingAt 51 = .ok (.ifCond .eq 20, 3) := by decide +kernel
theorem dX6_fittingAt_54 : decode cX6_fittingAt 54 = .ok (.iload_n 2, 1) := by decide +kernel
theorem dX6_fittingAt_55 : decode cX6_fittingAt 55 = .ok (.aload 5, 2) := by decide +kernel
theorem dX6_fittingAt_57 : decode cX6_fittingAt 57 = .ok (.getfield 201, 3) := by decide +kernel
theorem dX6_fittingAt_60 : decode cX6_fittingAt 60 = .ok (.isub, 1) := by decide +kernel
theorem dX6_fittingAt_61 : decode cX6_fittingAt 61 = .ok (.istore_n 2, 1) := by decide +kernel
theorem dX6_fittingAt_62 : decode cX6_fittingAt 62 = .ok (.iload_n 2, 1) := by decide +kernel
theorem dX6_fittingAt_63 : decode cX6_fittingAt 63 = .ok (.ifCond .ge 5, 3) := by decide +kernel
theorem dX6_fittingAt_66 : decode cX6_fittingAt 66 = .ok (.iload_n 3, 1) := by decide +kernel
theorem dX6_fittingAt_67 : decode cX6_fittingAt 67 = .ok (.ireturn, 1) := by decide +kernel
theorem dX6_fittingAt_68 : decode cX6_fittingAt 68 = .ok (.iinc 3 1, 3) := by decide +kernel
theorem dX6_fittingAt_71 : decode cX6_fittingAt 71 = .ok (.iinc 4 1, 3) := by decide +kernel
theorem dX6_fittingAt_74 : decode cX6_fittingAt 74 = .ok (.goto (-64), 3) := by decide +kernel
theorem dX6_fittingAt_77 : decode cX6_fittingAt 77 = .ok (.iload_n 3, 1) := by decide +kernel
theorem dX6_fittingAt_78 : decode cX6_fittingAt 78 = .ok (.ireturn, 1) := by decide +kernel
set_option maxRecDepth 20000 in
theorem ggX6_carryFirst_Jx4a65c_size_8abf5 : GoodIn wsX6_carryFirst wsJx4a65c_size_8abf5 := goodIn_r _ [12, 13, 106, 107, 108] (by decide +kernel) (by decide +kernel)
set_option maxRecDepth 20000 in
theorem gX6_carryFirst_Jx4a65c_size_8abf5_f116Jx4a65c : GoodIn wsX6_carryFirst (va_wsF RX6 116 RJx4a65c ⟨"java/util/List", "size", "()I"⟩ yJx4a65c_size_8abf5 wsJx4a65c_size_8abf5) := goodIn_app (goodIn_of _ (by decide +kernel)) ggX6_carryFirst_Jx4a65c_size_8abf5
set_option maxRecDepth 20000 in
theorem ggX6_carryFirst_Jx4a65c_get_915e3 : GoodIn wsX6_carryFirst wsJx4a65c_get_915e3 := goodIn_r _ [17, 13, 18, 19, 20, 21, 22, 23, 24, 25, 26, 27, 28, 11, 29, 30, 106, 107, 108] (by decide +kernel) (by decide +kernel)
set_option maxRecDepth 20000 in
theorem gX6_carryFirst_Jx4a65c_get_915e3_f138Jx4a65c : GoodIn wsX6_carryFirst (va_wsF RX6 138 RJx4a65c ⟨"java/util/List", "get", "(I)Ljava/lang/Object;"⟩ yJx4a65c_get_915e3 wsJx4a65c_get_915e3) := goodIn_app (goodIn_of _ (by decide +kernel)) ggX6_carryFirst_Jx4a65c_get_915e3
set_option maxRecDepth 20000 in
theorem ggX6_carryFirst_X6_isQueued : GoodIn wsX6_carryFirst wsX6_isQueued := goodIn_r _ [35, 36, 37, 38, 39, 40, 34, 41, 4, 42, 43, 44, 45, 46, 47, 48, 49, 50, 51, 52, 53, 54, 55, 56, 57, 58, 59, 60, 61, 62, 63, 64, 65, 66, 67, 68, 69, 70, 71, 72, 73, 74, 75, 98, 99, 100, 101, 102, 103, 104, 105, 83, 84, 85, 86, 87, 88, 89, 90, 91, 92, 93, 94, 95, 96, 97, 109, 110, 111, 112, 113, 114, 115] (by decide +kernel) (by decide +kernel)
set_option maxRecDepth 20000 in
theorem gX6_carryFirst_X6_isQueued : GoodIn wsX6_carryFirst (wsV RX6 142 RX6 yX6_isQueued wsX6_isQueued) := goodIn_app (goodIn_of _ (by decide +kernel)) ggX6_carryFirst_X6_isQueued
set_option maxRecDepth 20000 in
theorem ggX6_carryFirst_X0_waited : GoodIn wsX6_carryFirst wsX0_waited := goodIn_r _ [80, 81, 82, 98, 99, 100, 101, 102, 103, 104, 105] (by decide +kernel) (by decide +kernel)
set_option maxRecDepth 20000 in
theorem gX6_carryFirst_X0_waited : GoodIn wsX6_carryFirst (wsV RX6 220 RX0 yX0_waited wsX0_waited) := goodIn_app (goodIn_of _ (by decide +kernel)) ggX6_carryFirst_X0_waited
theorem dX6_carryFirst_0 : decode cX6_carryFirst 0 = .ok (.iconst 0, 1) := by decide +kernel
theorem dX6_carryFirst_1 : decode cX6_carryFirst 1 = .ok (.istore_n 3, 1) := by decide +kernel
theorem dX6_carryFirst_2 : decode cX6_carryFirst 2 = .ok (.iconst 0, 1) := by decide +kernel
theorem dX6_carryFirst_3 : decode cX6_carryFirst 3 = .ok (.istore 4, 2) := by decide +kernel
theorem dX6_carryFirst_5 : decode cX6_carryFirst 5 = .ok (.iconst 0, 1) := by decide +kernel
theorem dX6_carryFirst_6 : decode cX6_carryFirst 6 = .ok (.istore 5, 2) := by decide +kernel
theorem dX6_carryFirst_8 : decode cX6_carryFirst 8 = .ok (.iload 5, 2) := by decide +kernel
theorem dX6_carryFirst_10 : decode cX6_carryFirst 10 = .ok (.aload_n 0, 1) := by decide +kernel
theorem dX6_carryFirst_11 : decode cX6_carryFirst 11 = .ok (.getfield 60, 3) := by decide +kernel
theorem dX6_carryFirst_14 : decode cX6_carryFirst 14 = .ok (.invokeinterface 116 1, 5) := by decide +kernel
theorem dX6_carryFirst_19 : decode cX6_carryFirst 19 = .ok (.if_icmp .ge 76, 3) := by decide +kernel
theorem dX6_carryFirst_22 : decode cX6_carryFirst 22 = .ok (.iload 4, 2) := by decide +kernel
theorem dX6_carryFirst_24 : decode cX6_carryFirst 24 = .ok (.iload_n 1, 1) := by decide +kernel
theorem dX6_carryFirst_25 : decode cX6_carryFirst 25 = .ok (.if_icmp .ge 70, 3) := by decide +kernel
theorem dX6_carryFirst_28 : decode cX6_carryFirst 28 = .ok (.aload_n 0, 1) := by decide +kernel
theorem dX6_carryFirst_29 : decode cX6_carryFirst 29 = .ok (.getfield 60, 3) := by decide +kernel
theorem dX6_carryFirst_32 : decode cX6_carryFirst 32 = .ok (.iload 5, 2) := by decide +kernel
theorem dX6_carryFirst_34 : decode cX6_carryFirst 34 = .ok (.invokeinterface 138 2, 5) := by decide +kernel
theorem dX6_carryFirst_39 : decode cX6_carryFirst 39 = .ok (.checkcast 119, 3) := by decide +kernel
theorem dX6_carryFirst_42 : decode cX6_carryFirst 42 = .ok (.astore 6, 2) := by decide +kernel
theorem dX6_carryFirst_44 : decode cX6_carryFirst 44 = .ok (.aload_n 0, 1) := by decide +kernel
theorem dX6_carryFirst_45 : decode cX6_carryFirst 45 = .ok (.aload 6, 2) := by decide +kernel
theorem dX6_carryFirst_47 : decode cX6_carryFirst 47 = .ok (.aload_n 0, 1) := by decide +kernel
theorem dX6_carryFirst_48 : decode cX6_carryFirst 48 = .ok (.getfield 67, 3) := by decide +kernel
theorem dX6_carryFirst_51 : decode cX6_carryFirst 51 = .ok (.iload_n 2, 1) := by decide +kernel
theorem dX6_carryFirst_52 : decode cX6_carryFirst 52 = .ok (.invokevirtual 142, 3) := by decide +kernel
theorem dX6_carryFirst_55 : decode cX6_carryFirst 55 = .ok (.ifCond .eq 34, 3) := by decide +kernel
theorem dX6_carryFirst_58 : decode cX6_carryFirst 58 = .ok (.aload 6, 2) := by decide +kernel
theorem dX6_carryFirst_60 : decode cX6_carryFirst 60 = .ok (.iload_n 2, 1) := by decide +kernel
theorem dX6_carryFirst_61 : decode cX6_carryFirst 61 = .ok (.putfield 217, 3) := by decide +kernel
theorem dX6_carryFirst_64 : decode cX6_carryFirst 64 = .ok (.iload_n 3, 1) := by decide +kernel
theorem dX6_carryFirst_65 : decode cX6_carryFirst 65 = .ok (.aload 6, 2) := by decide +kernel
theorem dX6_carryFirst_67 : decode cX6_carryFirst 67 = .ok (.getfield 207, 3) := by decide +kernel
theorem dX6_carryFirst_70 : decode cX6_carryFirst 70 = .ok (.iadd, 1) := by decide +kernel
theorem dX6_carryFirst_71 : decode cX6_carryFirst 71 = .ok (.istore_n 3, 1) := by decide +kernel
theorem dX6_carryFirst_72 : decode cX6_carryFirst 72 = .ok (.aload_n 0, 1) := by decide +kernel
theorem dX6_carryFirst_73 : decode cX6_carryFirst 73 = .ok (.dup, 1) := by decide +kernel
theorem dX6_carryFirst_74 : decode cX6_carryFirst 74 = .ok (.getfield 226, 3) := by decide +kernel
theorem dX6_carryFirst_77 : decode cX6_carryFirst 77 = .ok (.aload 6, 2) := by decide +kernel
theorem dX6_carryFirst_79 : decode cX6_carryFirst 79 = .ok (.invokevirtual 220, 3) := by decide +kernel
theorem dX6_carryFirst_82 : decode cX6_carryFirst 82 = .ok (.iadd, 1) := by decide +kernel
theorem dX6_carryFirst_83 : decode cX6_carryFirst 83 = .ok (.putfield 226, 3) := by decide +kernel
theorem dX6_carryFirst_86 : decode cX6_carryFirst 86 = .ok (.iinc 4 1, 3) := by decide +kernel
theorem dX6_carryFirst_89 : decode cX6_carryFirst 89 = .ok (.iinc 5 1, 3) := by decide +kernel
theorem dX6_carryFirst_92 : decode cX6_carryFirst 92 = .ok (.goto (-84), 3) := by decide +kernel
theorem dX6_carryFirst_95 : decode cX6_carryFirst 95 = .ok (.aload_n 0, 1) := by decide +kernel
theorem dX6_carryFirst_96 : decode cX6_carryFirst 96 = .ok (.dup, 1) := by decide +kernel
theorem dX6_carryFirst_97 : decode cX6_carryFirst 97 = .ok (.getfield 223, 3) := by decide +kernel
theorem dX6_carryFirst_100 : decode cX6_carryFirst 100 = .ok (.iload 4, 2) := by decide +kernel
theorem dX6_carryFirst_102 : decode cX6_carryFirst 102 = .ok (.iadd, 1) := by decide +kernel
theorem dX6_carryFirst_103 : decode cX6_carryFirst 103 = .ok (.putfield 223, 3) := by decide +kernel
theorem dX6_carryFirst_106 : decode cX6_carryFirst 106 = .ok (.iload_n 3, 1) := by decide +kernel
theorem dX6_carryFirst_107 : decode cX6_carryFirst 107 = .ok (.ireturn, 1) := by decide +kernel
set_option maxRecDepth 20000 in
theorem ggX6_gatherLeft_X2_forgetBoats : GoodIn wsX6_gatherLeft wsX2_forgetBoats := goodIn_r _ [8, 9, 98, 99, 100, 101, 102, 103, 104, 105, 106] (by decide +kernel) (by decide +kernel)
set_option maxRecDepth 20000 in
theorem gX6_gatherLeft_X2_forgetBoats : GoodIn wsX6_gatherLeft (wsV RX6 238 RX2 yX2_forgetBoats wsX2_forgetBoats) := goodIn_app (goodIn_of _ (by decide +kernel)) ggX6_gatherLeft_X2_forgetBoats
set_option maxRecDepth 20000 in
theorem ggX6_gatherLeft_Jx4a65c_size_8abf5 : GoodIn wsX6_gatherLeft wsJx4a65c_size_8abf5 := goodIn_r _ [14, 15, 107, 108, 109] (by decide +kernel) (by decide +kernel)
set_option maxRecDepth 20000 in
theorem gX6_gatherLeft_Jx4a65c_size_8abf5_f116Jx4a65c : GoodIn wsX6_gatherLeft (va_wsF RX6 116 RJx4a65c ⟨"java/util/List", "size", "()I"⟩ yJx4a65c_size_8abf5 wsJx4a65c_size_8abf5) := goodIn_app (goodIn_of _ (by decide +kernel)) ggX6_gatherLeft_Jx4a65c_size_8abf5
set_option maxRecDepth 20000 in
theorem ggX6_gatherLeft_Jx4a65c_get_915e3 : GoodIn wsX6_gatherLeft wsJx4a65c_get_915e3 := goodIn_r _ [19, 15, 20, 21, 22, 23, 24, 25, 26, 27, 28, 29, 30, 13, 31, 32, 107, 108, 109] (by decide +kernel) (by decide +kernel)
set_option maxRecDepth 20000 in
theorem gX6_gatherLeft_Jx4a65c_get_915e3_f138Jx4a65c : GoodIn wsX6_gatherLeft (va_wsF RX6 138 RJx4a65c ⟨"java/util/List", "get", "(I)Ljava/lang/Object;"⟩ yJx4a65c_get_915e3 wsJx4a65c_get_915e3) := goodIn_app (goodIn_of _ (by decide +kernel)) ggX6_gatherLeft_Jx4a65c_get_915e3
set_option maxRecDepth 20000 in
theorem ggX6_gatherLeft_X6_isLeft : GoodIn wsX6_gatherLeft wsX6_isLeft := goodIn_r _ [37, 38, 39, 40, 41, 36, 42, 43, 44, 45, 46, 47, 48, 49, 50, 51, 52, 53, 54, 55, 56, 57, 58, 59, 60, 61, 62, 63, 64, 65, 66, 67, 68, 69, 70, 71, 72, 110, 111, 112, 113, 114, 115, 116, 117, 83, 84, 85, 86, 87, 88, 89, 90, 91, 92, 93, 94, 95, 96, 97, 118, 119, 120, 121, 122, 123, 124] (by decide +kernel) (by decide +kernel)
set_option maxRecDepth 20000 in
theorem gX6_gatherLeft_X6_isLeft : GoodIn wsX6_gatherLeft (wsV RX6 232 RX6 yX6_isLeft wsX6_isLeft) := goodIn_app (goodIn_of _ (by decide +kernel)) ggX6_gatherLeft_X6_isLeft
set_option maxRecDepth 20000 in
theorem ggX6_gatherLeft_X2_addBoat : GoodIn wsX6_gatherLeft wsX2_addBoat := goodIn_r _ [76, 9, 77, 78, 79, 80, 81, 82, 98, 99, 100, 101, 102, 103, 104, 105, 106, 110, 111, 112, 113, 114, 115, 116, 117] (by decide +kernel) (by decide +kernel)
set_option maxRecDepth 20000 in
theorem gX6_gatherLeft_X2_addBoat : GoodIn wsX6_gatherLeft (wsV RX6 241 RX2 yX2_addBoat wsX2_addBoat) := goodIn_app (goodIn_of _ (by decide +kernel)) ggX6_gatherLeft_X2_addBoat
theorem dX6_gatherLeft_0 : decode cX6_gatherLeft 0 = .ok (.aload_n 0, 1) := by decide +kernel
theorem dX6_gatherLeft_1 : decode cX6_gatherLeft 1 = .ok (.getfield 39, 3) := by decide +kernel
theorem dX6_gatherLeft_4 : decode cX6_gatherLeft 4 = .ok (.invokevirtual 238, 3) := by decide +kernel
theorem dX6_gatherLeft_7 : decode cX6_gatherLeft 7 = .ok (.iconst 0, 1) := by decide +kernel
theorem dX6_gatherLeft_8 : decode cX6_gatherLeft 8 = .ok (.istore_n 1, 1) := by decide +kernel
theorem dX6_gatherLeft_9 : decode cX6_gatherLeft 9 = .ok (.iconst 0, 1) := by decide +kernel
theorem dX6_gatherLeft_10 : decode cX6_gatherLeft 10 = .ok (.istore_n 2, 1) := by decide +kernel
theorem dX6_gatherLeft_11 : decode cX6_gatherLeft 11 = .ok (.iload_n 2, 1) := by decide +kernel
theorem dX6_gatherLeft_12 : decode cX6_gatherLeft 12 = .ok (.aload_n 0, 1) := by decide +kernel
theorem dX6_gatherLeft_13 : decode cX6_gatherLeft 13 = .ok (.getfield 60, 3) := by decide +kernel
theorem dX6_gatherLeft_16 : decode cX6_gatherLeft 16 = .ok (.invokeinterface 116 1, 5) := by decide +kernel
theorem dX6_gatherLeft_21 : decode cX6_gatherLeft 21 = .ok (.if_icmp .ge 42, 3) := by decide +kernel
theorem dX6_gatherLeft_24 : decode cX6_gatherLeft 24 = .ok (.aload_n 0, 1) := by decide +kernel
theorem dX6_gatherLeft_25 : decode cX6_gatherLeft 25 = .ok (.getfield 60, 3) := by decide +kernel
theorem dX6_gatherLeft_28 : decode cX6_gatherLeft 28 = .ok (.iload_n 2, 1) := by decide +kernel
theorem dX6_gatherLeft_29 : decode cX6_gatherLeft 29 = .ok (.invokeinterface 138 2, 5) := by decide +kernel
theorem dX6_gatherLeft_34 : decode cX6_gatherLeft 34 = .ok (.checkcast 119, 3) := by decide +kernel
theorem dX6_gatherLeft_37 : decode cX6_gatherLeft 37 = .ok (.astore_n 3, 1) := by decide +kernel
theorem dX6_gatherLeft_38 : decode cX6_gatherLeft 38 = .ok (.aload_n 0, 1) := by decide +kernel
theorem dX6_gatherLeft_39 : decode cX6_gatherLeft 39 = .ok (.aload_n 3, 1) := by decide +kernel
theorem dX6_gatherLeft_40 : decode cX6_gatherLeft 40 = .ok (.invokevirtual 232, 3) := by decide +kernel
theorem dX6_gatherLeft_43 : decode cX6_gatherLeft 43 = .ok (.ifCond .eq 14, 3) := by decide +kernel
theorem dX6_gatherLeft_46 : decode cX6_gatherLeft 46 = .ok (.aload_n 0, 1) := by decide +kernel
theorem dX6_gatherLeft_47 : decode cX6_gatherLeft 47 = .ok (.getfield 39, 3) := by decide +kernel
theorem dX6_gatherLeft_50 : decode cX6_gatherLeft 50 = .ok (.aload_n 3, 1) := by decide +kernel
theorem dX6_gatherLeft_51 : decode cX6_gatherLeft 51 = .ok (.invokevirtual 241, 3) := by decide +kernel
theorem dX6_gatherLeft_54 : decode cX6_gatherLeft 54 = .ok (.iinc 1 1, 3) := by decide +kernel
theorem dX6_gatherLeft_57 : decode cX6_gatherLeft 57 = .ok (.iinc 2 1, 3) := by decide +kernel
theorem dX6_gatherLeft_60 : decode cX6_gatherLeft 60 = .ok (.goto (-49), 3) := by decide +kernel
theorem dX6_gatherLeft_63 : decode cX6_gatherLeft 63 = .ok (.iload_n 1, 1) := by decide +kernel
theorem dX6_gatherLeft_64 : decode cX6_gatherLeft 64 = .ok (.ireturn, 1) := by decide +kernel
set_option maxRecDepth 20000 in
theorem ggX6_bestPlan_X2_best : GoodIn wsX6_bestPlan wsX2_best := goodIn_r _ [9, 10, 11, 12, 13, 14, 15, 16, 17, 18, 8, 19, 20, 21, 22, 23, 24, 25, 26, 27, 28, 29, 30, 31, 32, 33, 34, 35, 36, 37, 38, 39, 40, 41, 42, 43, 44, 45, 46, 47, 48, 49, 50, 51, 52, 53, 54, 55, 56, 57, 58, 59, 60, 61, 62, 63, 79, 80, 81, 82, 83, 84, 85, 86, 87, 88, 89, 90, 91, 92, 93, 94, 95, 96] (by decide +kernel) (by decide +kernel)
set_option maxRecDepth 20000 in
theorem gX6_bestPlan_X2_best : GoodIn wsX6_bestPlan (wsV RX6 245 RX2 yX2_best wsX2_best) := goodIn_app (goodIn_of _ (by decide +kernel)) ggX6_bestPlan_X2_best
theorem dX6_bestPlan_0 : decode cX6_bestPlan 0 = .ok (.aload_n 0, 1) := by decide +kernel
theorem dX6_bestPlan_1 : decode cX6_bestPlan 1 = .ok (.getfield 39, 3) := by decide +kernel
theorem dX6_bestPlan_4 : decode cX6_bestPlan 4 = .ok (.aload_n 0, 1) := by decide +kernel
theorem dX6_bestPlan_5 : decode cX6_bestPlan 5 = .ok (.getfield 67, 3) := by decide +kernel
theorem dX6_bestPlan_8 : decode cX6_bestPlan 8 = .ok (.aload_n 0, 1) := by decide +kernel
theorem dX6_bestPlan_9 : decode cX6_bestPlan 9 = .ok (.getfield 149, 3) := by decide +kernel
theorem dX6_bestPlan_12 : decode cX6_bestPlan 12 = .ok (.aload_n 0, 1) := by decide +kernel
theorem dX6_bestPlan_13 : decode cX6_bestPlan 13 = .ok (.getfield 63, 3) := by decide +kernel
theorem dX6_bestPlan_16 : decode cX6_bestPlan 16 = .ok (.invokevirtual 245, 3) := by decide +kernel
theorem dX6_bestPlan_19 : decode cX6_bestPlan 19 = .ok (.lreturn, 1) := by decide +kernel
set_option maxRecDepth 20000 in
theorem ggX7_init_X7_asAtFirst : GoodIn wsX7_init wsX7_asAtFirst := goodIn_r _ [35] (by decide +kernel) (by decide +kernel)
set_option maxRecDepth 20000 in
theorem gX7_init_X7_asAtFirst : GoodIn wsX7_init (va_wsS RX7 84 yX7_asAtFirst wsX7_asAtFirst) := goodIn_app (goodIn_of _ (by decide +kernel)) ggX7_init_X7_asAtFirst
theorem dX7_init_0 : decode cX7_init 0 = .ok (.aload_n 0, 1) := by decide +kernel
theorem dX7_init_1 : decode cX7_init 1 = .ok (.invokespecial 1, 3) := by decide +kernel
theorem dX7_init_4 : decode cX7_init 4 = .ok (.aload_n 0, 1) := by decide +kernel
theorem dX7_init_5 : decode cX7_init 5 = .ok (.bipush 60, 2) := by decide +kernel
theorem dX7_init_7 : decode cX7_init 7 = .ok (.newarray .byte, 2) := by decide +kernel
theorem dX7_init_9 : decode cX7_init 9 = .ok (.putfield 7, 3) := by decide +kernel
theorem dX7_init_12 : decode cX7_init 12 = .ok (.aload_n 0, 1) := by decide +kernel
theorem dX7_init_13 : decode cX7_init 13 = .ok (.bipush 100, 2) := by decide +kernel
theorem dX7_init_15 : decode cX7_init 15 = .ok (.putfield 13, 3) := by decide +kernel
theorem dX7_init_18 : decode cX7_init 18 = .ok (.aload_n 0, 1) := by decide +kernel
theorem dX7_init_19 : decode cX7_init 19 = .ok (.bipush 6, 2) := by decide +kernel
theorem dX7_init_21 : decode cX7_init 21 = .ok (.newarray .int, 2) := by decide +kernel
theorem dX7_init_23 : decode cX7_init 23 = .ok (.putfield 17, 3) := by decide +kernel
theorem dX7_init_26 : decode cX7_init 26 = .ok (.aload_n 0, 1) := by decide +kernel
theorem dX7_init_27 : decode cX7_init 27 = .ok (.bipush 6, 2) := by decide +kernel
theorem dX7_init_29 : decode cX7_init 29 = .ok (.newarray .int, 2) := by decide +kernel
theorem dX7_init_31 : decode cX7_init 31 = .ok (.putfield 21, 3) := by decide +kernel
theorem dX7_init_34 : decode cX7_init 34 = .ok (.aload_n 0, 1) := by decide +kernel
theorem dX7_init_35 : decode cX7_init 35 = .ok (.iconst 2, 1) := by decide +kernel
theorem dX7_init_36 : decode cX7_init 36 = .ok (.newarray .int, 2) := by decide +kernel
theorem dX7_init_38 : decode cX7_init 38 = .ok (.putfield 24, 3) := by decide +kernel
theorem dX7_init_41 : decode cX7_init 41 = .ok (.aload_n 0, 1) := by decide +kernel
theorem dX7_init_42 : decode cX7_init 42 = .ok (.iconst 2, 1) := by decide +kernel
theorem dX7_init_43 : decode cX7_init 43 = .ok (.newarray .long, 2) := by decide +kernel
theorem dX7_init_45 : decode cX7_init 45 = .ok (.putfield 27, 3) := by decide +kernel
theorem dX7_init_48 : decode cX7_init 48 = .ok (.aload_n 0, 1) := by decide +kernel
theorem dX7_init_49 : decode cX7_init 49 = .ok (.bipush 8, 2) := by decide +kernel
theorem dX7_init_51 : decode cX7_init 51 = .ok (.newarray .int, 2) := by decide +kernel
theorem dX7_init_53 : decode cX7_init 53 = .ok (.putfield 31, 3) := by decide +kernel
theorem dX7_init_56 : decode cX7_init 56 = .ok (.aload_n 0, 1) := by decide +kernel
theorem dX7_init_57 : decode cX7_init 57 = .ok (.bipush 8, 2) := by decide +kernel
theorem dX7_init_59 : decode cX7_init 59 = .ok (.newarray .int, 2) := by decide +kernel
theorem dX7_init_61 : decode cX7_init 61 = .ok (.putfield 34, 3) := by decide +kernel
theorem dX7_init_64 : decode cX7_init 64 = .ok (.aload_n 0, 1) := by decide +kernel
theorem dX7_init_65 : decode cX7_init 65 = .ok (.bipush 16, 2) := by decide +kernel
theorem dX7_init_67 : decode cX7_init 67 = .ok (.newarray .int, 2) := by decide +kernel
theorem dX7_init_69 : decode cX7_init 69 = .ok (.putfield 37, 3) := by decide +kernel
theorem dX7_init_72 : decode cX7_init 72 = .ok (.aload_n 0, 1) := by decide +kernel
theorem dX7_init_73 : decode cX7_init 73 = .ok (.bipush 16, 2) := by decide +kernel
theorem dX7_init_75 : decode cX7_init 75 = .ok (.newarray .int, 2) := by decide +kernel
theorem dX7_init_77 : decode cX7_init 77 = .ok (.putfield 40, 3) := by decide +kernel
theorem dX7_init_80 : decode cX7_init 80 = .ok (.aload_n 0, 1) := by decide +kernel
theorem dX7_init_81 : decode cX7_init 81 = .ok (.bipush 16, 2) := by decide +kernel
theorem dX7_init_83 : decode cX7_init 83 = .ok (.newarray .int, 2) := by decide +kernel
theorem dX7_init_85 : decode cX7_init 85 = .ok (.putfield 43, 3) := by decide +kernel
theorem dX7_init_88 : decode cX7_init 88 = .ok (.aload_n 0, 1) := by decide +kernel
theorem dX7_init_89 : decode cX7_init 89 = .ok (.bipush 16, 2) := by decide +kernel
theorem dX7_init_91 : decode cX7_init 91 = .ok (.newarray .int, 2) := by decide +kernel
theorem dX7_init_93 : decode cX7_init 93 = .ok (.putfield 46, 3) := by decide +kernel
theorem dX7_init_96 : decode cX7_init 96 = .ok (.aload_n 0, 1) := by decide +kernel
theorem dX7_init_97 : decode cX7_init 97 = .ok (.bipush 16, 2) := by decide +kernel
theorem dX7_init_99 : decode cX7_init 99 = .ok (.newarray .int, 2) := by decide +kernel
theorem dX7_init_101 : decode cX7_init 101 = .ok (.putfield 49, 3) := by decide +kernel
theorem dX7_init_104 : decode cX7_init 104 = .ok (.aload_n 0, 1) := by decide +kernel
theorem dX7_init_105 : decode cX7_init 105 = .ok (.bipush 16, 2) := by decide +kernel
theorem dX7_init_107 : decode cX7_init 107 = .ok (.newarray .int, 2) := by decide +kernel
theorem dX7_init_109 : decode cX7_init 109 = .ok (.putfield 52, 3) := by decide +kernel
theorem dX7_init_112 : decode cX7_init 112 = .ok (.aload_n 0, 1) := by decide +kernel
theorem dX7_init_113 : decode cX7_init 113 = .ok (.bipush 16, 2) := by decide +kernel
theorem dX7_init_115 : decode cX7_init 115 = .ok (.newarray .int, 2) := by decide +kernel
theorem dX7_init_117 : decode cX7_init 117 = .ok (.putfield 55, 3) := by decide +kernel
theorem dX7_init_120 : decode cX7_init 120 = .ok (.aload_n 0, 1) := by decide +kernel
theorem dX7_init_121 : decode cX7_init 121 = .ok (.bipush 16, 2) := by decide +kernel
theorem dX7_init_123 : decode cX7_init 123 = .ok (.newarray .int, 2) := by decide +kernel
theorem dX7_init_125 : decode cX7_init 125 = .ok (.putfield 58, 3) := by decide +kernel
theorem dX7_init_128 : decode cX7_init 128 = .ok (.aload_n 0, 1) := by decide +kernel
theorem dX7_init_129 : decode cX7_init 129 = .ok (.ldc 61, 2) := by decide +kernel
theorem dX7_init_131 : decode cX7_init 131 = .ok (.newarray .int, 2) := by decide +kernel
theorem dX7_init_133 : decode cX7_init 133 = .ok (.putfield 62, 3) := by decide +kernel
theorem dX7_init_136 : decode cX7_init 136 = .ok (.aload_n 0, 1) := by decide +kernel
theorem dX7_init_137 : decode cX7_init 137 = .ok (.ldc 61, 2) := by decide +kernel
theorem dX7_init_139 : decode cX7_init 139 = .ok (.newarray .int, 2) := by decide +kernel
theorem dX7_init_141 : decode cX7_init 141 = .ok (.putfield 65, 3) := by decide +kernel
theorem dX7_init_144 : decode cX7_init 144 = .ok (.aload_n 0, 1) := by decide +kernel
theorem dX7_init_145 : decode cX7_init 145 = .ok (.ldc 61, 2) := by decide +kernel
theorem dX7_init_147 : decode cX7_init 147 = .ok (.newarray .int, 2) := by decide +kernel
theorem dX7_init_149 : decode cX7_init 149 = .ok (.putfield 68, 3) := by decide +kernel
theorem dX7_init_152 : decode cX7_init 152 = .ok (.aload_n 0, 1) := by decide +kernel
theorem dX7_init_153 : decode cX7_init 153 = .ok (.ldc 61, 2) := by decide +kernel
theorem dX7_init_155 : decode cX7_init 155 = .ok (.newarray .int, 2) := by decide +kernel
theorem dX7_init_157 : decode cX7_init 157 = .ok (.putfield 71, 3) := by decide +kernel
theorem dX7_init_160 : decode cX7_init 160 = .ok (.aload_n 0, 1) := by decide +kernel
theorem dX7_init_161 : decode cX7_init 161 = .ok (.ldc 61, 2) := by decide +kernel
theorem dX7_init_163 : decode cX7_init 163 = .ok (.newarray .int, 2) := by decide +kernel
theorem dX7_init_165 : decode cX7_init 165 = .ok (.putfield 74, 3) := by decide +kernel
theorem dX7_init_168 : decode cX7_init 168 = .ok (.aload_n 0, 1) := by decide +kernel
theorem dX7_init_169 : decode cX7_init 169 = .ok (.ldc 77, 2) := by decide +kernel
theorem dX7_init_171 : decode cX7_init 171 = .ok (.newarray .int, 2) := by decide +kernel
theorem dX7_init_173 : decode cX7_init 173 = .ok (.putfield 78, 3) := by decide +kernel
theorem dX7_init_176 : decode cX7_init 176 = .ok (.aload_n 0, 1) := by decide +kernel
theorem dX7_init_177 : decode cX7_init 177 = .ok (.bipush 6, 2) := by decide +kernel
theorem dX7_init_179 : decode cX7_init 179 = .ok (.newarray .int, 2) := by decide +kernel
theorem dX7_init_181 : decode cX7_init 181 = .ok (.putfield 81, 3) := by decide +kernel
theorem dX7_init_184 : decode cX7_init 184 = .ok (.aload_n 0, 1) := by decide +kernel
theorem dX7_init_185 : decode cX7_init 185 = .ok (.getfield 17, 3) := by decide +kernel
theorem dX7_init_188 : decode cX7_init 188 = .ok (.invokestatic 84, 3) := by decide +kernel
theorem dX7_init_191 : decode cX7_init 191 = .ok (.aload_n 0, 1) := by decide +kernel
theorem dX7_init_192 : decode cX7_init 192 = .ok (.getfield 24, 3) := by decide +kernel
theorem dX7_init_195 : decode cX7_init 195 = .ok (.iconst 0, 1) := by decide +kernel
theorem dX7_init_196 : decode cX7_init 196 = .ok (.sipush 1000, 3) := by decide +kernel
theorem dX7_init_199 : decode cX7_init 199 = .ok (.iastore, 1) := by decide +kernel
theorem dX7_init_200 : decode cX7_init 200 = .ok (.aload_n 0, 1) := by decide +kernel
theorem dX7_init_201 : decode cX7_init 201 = .ok (.getfield 24, 3) := by decide +kernel
theorem dX7_init_204 : decode cX7_init 204 = .ok (.iconst 1, 1) := by decide +kernel
theorem dX7_init_205 : decode cX7_init 205 = .ok (.sipush 1000, 3) := by decide +kernel
theorem dX7_init_208 : decode cX7_init 208 = .ok (.iastore, 1) := by decide +kernel
theorem dX7_init_209 : decode cX7_init 209 = .ok (.return_, 1) := by decide +kernel
theorem dX7_lies_0 : decode cX7_lies 0 = .ok (.iload_n 0, 1) := by decide +kernel
theorem dX7_lies_1 : decode cX7_lies 1 = .ok (.iload_n 1, 1) := by decide +kernel
theorem dX7_lies_2 : decode cX7_lies 2 = .ok (.if_icmp .lt 12, 3) := by decide +kernel
theorem dX7_lies_5 : decode cX7_lies 5 = .ok (.iload_n 0, 1) := by decide +kernel
theorem dX7_lies_6 : decode cX7_lies 6 = .ok (.iload_n 2, 1) := by decide +kernel
theorem dX7_lies_7 : decode cX7_lies 7 = .ok (.if_icmp .gt 7, 3) := by decide +kernel
theorem dX7_lies_10 : decode cX7_lies 10 = .ok (.iconst 1, 1) := by decide +kernel
theorem dX7_lies_11 : decode cX7_lies 11 = .ok (.goto 4, 3) := by decide +kernel
theorem dX7_lies_14 : decode cX7_lies 14 = .ok (.iconst 0, 1) := by decide +kernel
theorem dX7_lies_15 : decode cX7_lies 15 = .ok (.ireturn, 1) := by decide +kernel
theorem dX7_push_0 : decode cX7_push 0 = .ok (.bipush 24, 2) := by decide +kernel
theorem dX7_push_2 : decode cX7_push 2 = .ok (.istore_n 2, 1) := by decide +kernel
theorem dX7_push_3 : decode cX7_push 3 = .ok (.iload_n 2, 1) := by decide +kernel
theorem dX7_push_4 : decode cX7_push 4 = .ok (.ifCond .lt 32, 3) := by decide +kernel
theorem dX7_push_7 : decode cX7_push 7 = .ok (.aload_n 0, 1) := by decide +kernel
theorem dX7_push_8 : decode cX7_push 8 = .ok (.getfield 7, 3) := by decide +kernel
theorem dX7_push_11 : decode cX7_push 11 = .ok (.aload_n 0, 1) := by decide +kernel
theorem dX7_push_12 : decode cX7_push 12 = .ok (.getfield 88, 3) := by decide +kernel
theorem dX7_push_15 : decode cX7_push 15 = .ok (.iload_n 1, 1) := by decide +kernel
theorem dX7_push_16 : decode cX7_push 16 = .ok (.iload_n 2, 1) := by decide +kernel
theorem dX7_push_17 : decode cX7_push 17 = .ok (.ishr, 1) := by decide +kernel
theorem dX7_push_18 : decode cX7_push 18 = .ok (.i2b, 1) := by decide +kernel
theorem dX7_push_19 : decode cX7_push 19 = .ok (.bastore, 1) := by decide +kernel
theorem dX7_push_20 : decode cX7_push 20 = .ok (.aload_n 0, 1) := by decide +kernel
theorem dX7_push_21 : decode cX7_push 21 = .ok (.dup, 1) := by decide +kernel
theorem dX7_push_22 : decode cX7_push 22 = .ok (.getfield 88, 3) := by decide +kernel
theorem dX7_push_25 : decode cX7_push 25 = .ok (.iconst 1, 1) := by decide +kernel
theorem dX7_push_26 : decode cX7_push 26 = .ok (.iadd, 1) := by decide +kernel
theorem dX7_push_27 : decode cX7_push 27 = .ok (.putfield 88, 3) := by decide +kernel
theorem dX7_push_30 : decode cX7_push 30 = .ok (.iinc 2 (-8), 3) := by decide +kernel
theorem dX7_push_33 : decode cX7_push 33 = .ok (.goto (-30), 3) := by decide +kernel
theorem dX7_push_36 : decode cX7_push 36 = .ok (.return_, 1) := by decide +kernel
set_option maxRecDepth 20000 in
theorem ggX7_feed_X7_push : GoodIn wsX7_feed wsX7_push := goodIn_r _ [6, 7, 1, 8, 9, 10, 11, 12, 13, 14, 15, 16, 17, 18, 19, 20, 21, 22, 23, 24, 25, 26, 27, 28, 29, 30, 31, 32, 33, 34, 35, 36, 37, 38, 39, 40, 41, 42, 43] (by decide +kernel) (by decide +kernel)
set_option maxRecDepth 20000 in
theorem gX7_feed_X7_push : GoodIn wsX7_feed (wsV RX7 91 RX7 yX7_push wsX7_push) := goodIn_app (goodIn_of _ (by decide +kernel)) ggX7_feed_X7_push
theorem dX7_feed_0 : decode cX7_feed 0 = .ok (.aload_n 0, 1) := by decide +kernel
theorem dX7_feed_1 : decode cX7_feed 1 = .ok (.getfield 88, 3) := by decide +kernel
theorem dX7_feed_4 : decode cX7_feed 4 = .ok (.bipush 20, 2) := by decide +kernel
theorem dX7_feed_6 : decode cX7_feed 6 = .ok (.iadd, 1) := by decide +kernel
theorem dX7_feed_7 : decode cX7_feed 7 = .ok (.bipush 60, 2) := by decide +kernel
theorem dX7_feed_9 : decode cX7_feed 9 = .ok (.if_icmp .le 5, 3) := by decide +kernel
theorem dX7_feed_12 : decode cX7_feed 12 = .ok (.iconst (-1), 1) := by decide +kernel
theorem dX7_feed_13 : decode cX7_feed 13 = .ok (.ireturn, 1) := by decide +kernel
theorem dX7_feed_14 : decode cX7_feed 14 = .ok (.aload_n 0, 1) := by decide +kernel
theorem dX7_feed_15 : decode cX7_feed 15 = .ok (.iload_n 1, 1) := by decide +kernel
theorem dX7_feed_16 : decode cX7_feed 16 = .ok (.invokevirtual 91, 3) := by decide +kernel
theorem dX7_feed_19 : decode cX7_feed 19 = .ok (.aload_n 0, 1) := by decide +kernel
theorem dX7_feed_20 : decode cX7_feed 20 = .ok (.iload_n 2, 1) := by decide +kernel
theorem dX7_feed_21 : decode cX7_feed 21 = .ok (.invokevirtual 91, 3) := by decide +kernel
theorem dX7_feed_24 : decode cX7_feed 24 = .ok (.aload_n 0, 1) := by decide +kernel
theorem dX7_feed_25 : decode cX7_feed 25 = .ok (.iload_n 3, 1) := by decide +kernel
theorem dX7_feed_26 : decode cX7_feed 26 = .ok (.invokevirtual 91, 3) := by decide +kernel
theorem dX7_feed_29 : decode cX7_feed 29 = .ok (.aload_n 0, 1) := by decide +kernel
theorem dX7_feed_30 : decode cX7_feed 30 = .ok (.iload 4, 2) := by decide +kernel
theorem dX7_feed_32 : decode cX7_feed 32 = .ok (.invokevirtual 91, 3) := by decide +kernel
theorem dX7_feed_35 : decode cX7_feed 35 = .ok (.aload_n 0, 1) := by decide +kernel
theorem dX7_feed_36 : decode cX7_feed 36 = .ok (.iload 5, 2) := by decide +kernel
theorem dX7_feed_38 : decode cX7_feed 38 = .ok (.invokevirtual 91, 3) := by decide +kernel
