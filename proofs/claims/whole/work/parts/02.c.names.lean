theorem dX2_momentOfNextBoat_24 : decode cX2_momentOfNextBoat 24 = .ok (.if_icmp .eq 18, 3) := by decide +kernel
theorem dX2_momentOfNextBoat_27 : decode cX2_momentOfNextBoat 27 = .ok (.aload_n 0, 1) := by decide +kernel
theorem dX2_momentOfNextBoat_28 : decode cX2_momentOfNextBoat 28 = .ok (.getfield 15, 3) := by decide +kernel
theorem dX2_momentOfNextBoat_31 : decode cX2_momentOfNextBoat 31 = .ok (.iload_n 3, 1) := by decide +kernel
theorem dX2_momentOfNextBoat_32 : decode cX2_momentOfNextBoat 32 = .ok (.iaload, 1) := by decide +kernel
theorem dX2_momentOfNextBoat_33 : decode cX2_momentOfNextBoat 33 = .ok (.aload_n 0, 1) := by decide +kernel
theorem dX2_momentOfNextBoat_34 : decode cX2_momentOfNextBoat 34 = .ok (.getfield 15, 3) := by decide +kernel
theorem dX2_momentOfNextBoat_37 : decode cX2_momentOfNextBoat 37 = .ok (.iload_n 2, 1) := by decide +kernel
theorem dX2_momentOfNextBoat_38 : decode cX2_momentOfNextBoat 38 = .ok (.iaload, 1) := by decide +kernel
theorem dX2_momentOfNextBoat_39 : decode cX2_momentOfNextBoat 39 = .ok (.if_icmp .ge 5, 3) := by decide +kernel
theorem dX2_momentOfNextBoat_42 : decode cX2_momentOfNextBoat 42 = .ok (.iload_n 3, 1) := by decide +kernel
theorem dX2_momentOfNextBoat_43 : decode cX2_momentOfNextBoat 43 = .ok (.istore_n 2, 1) := by decide +kernel
theorem dX2_momentOfNextBoat_44 : decode cX2_momentOfNextBoat 44 = .ok (.iinc 3 1, 3) := by decide +kernel
theorem dX2_momentOfNextBoat_47 : decode cX2_momentOfNextBoat 47 = .ok (.goto (-43), 3) := by decide +kernel
theorem dX2_momentOfNextBoat_50 : decode cX2_momentOfNextBoat 50 = .ok (.iload_n 2, 1) := by decide +kernel
theorem dX2_momentOfNextBoat_51 : decode cX2_momentOfNextBoat 51 = .ok (.iconst (-1), 1) := by decide +kernel
theorem dX2_momentOfNextBoat_52 : decode cX2_momentOfNextBoat 52 = .ok (.if_icmp .ne 7, 3) := by decide +kernel
theorem dX2_momentOfNextBoat_55 : decode cX2_momentOfNextBoat 55 = .ok (.iconst (-1), 1) := by decide +kernel
theorem dX2_momentOfNextBoat_56 : decode cX2_momentOfNextBoat 56 = .ok (.goto 9, 3) := by decide +kernel
theorem dX2_momentOfNextBoat_59 : decode cX2_momentOfNextBoat 59 = .ok (.iload_n 2, 1) := by decide +kernel
theorem dX2_momentOfNextBoat_60 : decode cX2_momentOfNextBoat 60 = .ok (.iconst 1, 1) := by decide +kernel
theorem dX2_momentOfNextBoat_61 : decode cX2_momentOfNextBoat 61 = .ok (.iadd, 1) := by decide +kernel
theorem dX2_momentOfNextBoat_62 : decode cX2_momentOfNextBoat 62 = .ok (.bipush 13, 2) := by decide +kernel
theorem dX2_momentOfNextBoat_64 : decode cX2_momentOfNextBoat 64 = .ok (.imul, 1) := by decide +kernel
theorem dX2_momentOfNextBoat_65 : decode cX2_momentOfNextBoat 65 = .ok (.ireturn, 1) := by decide +kernel
theorem dX3_init_0 : decode cX3_init 0 = .ok (.aload_n 0, 1) := by decide +kernel
theorem dX3_init_1 : decode cX3_init 1 = .ok (.invokespecial 3, 3) := by decide +kernel
theorem dX3_init_4 : decode cX3_init 4 = .ok (.aload_n 0, 1) := by decide +kernel
theorem dX3_init_5 : decode cX3_init 5 = .ok (.bipush 60, 2) := by decide +kernel
theorem dX3_init_7 : decode cX3_init 7 = .ok (.newarray .int, 2) := by decide +kernel
theorem dX3_init_9 : decode cX3_init 9 = .ok (.putfield 11, 3) := by decide +kernel
theorem dX3_init_12 : decode cX3_init 12 = .ok (.return_, 1) := by decide +kernel
theorem dX3_size_0 : decode cX3_size 0 = .ok (.aload_n 0, 1) := by decide +kernel
theorem dX3_size_1 : decode cX3_size 1 = .ok (.getfield 15, 3) := by decide +kernel
theorem dX3_size_4 : decode cX3_size 4 = .ok (.ireturn, 1) := by decide +kernel
theorem dX3_hasRoom_0 : decode cX3_hasRoom 0 = .ok (.aload_n 0, 1) := by decide +kernel
theorem dX3_hasRoom_1 : decode cX3_hasRoom 1 = .ok (.getfield 15, 3) := by decide +kernel
theorem dX3_hasRoom_4 : decode cX3_hasRoom 4 = .ok (.bipush 20, 2) := by decide +kernel
theorem dX3_hasRoom_6 : decode cX3_hasRoom 6 = .ok (.iadd, 1) := by decide +kernel
theorem dX3_hasRoom_7 : decode cX3_hasRoom 7 = .ok (.bipush 60, 2) := by decide +kernel
theorem dX3_hasRoom_9 : decode cX3_hasRoom 9 = .ok (.if_icmp .gt 7, 3) := by decide +kernel
theorem dX3_hasRoom_12 : decode cX3_hasRoom 12 = .ok (.iconst 1, 1) := by decide +kernel
theorem dX3_hasRoom_13 : decode cX3_hasRoom 13 = .ok (.goto 4, 3) := by decide +kernel
theorem dX3_hasRoom_16 : decode cX3_hasRoom 16 = .ok (.iconst 0, 1) := by decide +kernel
theorem dX3_hasRoom_17 : decode cX3_hasRoom 17 = .ok (.ireturn, 1) := by decide +kernel
theorem dX3_put_0 : decode cX3_put 0 = .ok (.bipush 24, 2) := by decide +kernel
theorem dX3_put_2 : decode cX3_put 2 = .ok (.istore_n 2, 1) := by decide +kernel
theorem dX3_put_3 : decode cX3_put 3 = .ok (.iload_n 2, 1) := by decide +kernel
theorem dX3_put_4 : decode cX3_put 4 = .ok (.ifCond .lt 44, 3) := by decide +kernel
theorem dX3_put_7 : decode cX3_put 7 = .ok (.aload_n 0, 1) := by decide +kernel
theorem dX3_put_8 : decode cX3_put 8 = .ok (.getfield 15, 3) := by decide +kernel
theorem dX3_put_11 : decode cX3_put 11 = .ok (.bipush 60, 2) := by decide +kernel
theorem dX3_put_13 : decode cX3_put 13 = .ok (.if_icmp .ge 35, 3) := by decide +kernel
theorem dX3_put_16 : decode cX3_put 16 = .ok (.aload_n 0, 1) := by decide +kernel
theorem dX3_put_17 : decode cX3_put 17 = .ok (.getfield 11, 3) := by decide +kernel
theorem dX3_put_20 : decode cX3_put 20 = .ok (.aload_n 0, 1) := by decide +kernel
theorem dX3_put_21 : decode cX3_put 21 = .ok (.getfield 15, 3) := by decide +kernel
theorem dX3_put_24 : decode cX3_put 24 = .ok (.iload_n 1, 1) := by decide +kernel
theorem dX3_put_25 : decode cX3_put 25 = .ok (.iload_n 2, 1) := by decide +kernel
theorem dX3_put_26 : decode cX3_put 26 = .ok (.iushr, 1) := by decide +kernel
theorem dX3_put_27 : decode cX3_put 27 = .ok (.sipush 255, 3) := by decide +kernel
theorem dX3_put_30 : decode cX3_put 30 = .ok (.iand, 1) := by decide +kernel
theorem dX3_put_31 : decode cX3_put 31 = .ok (.iastore, 1) := by decide +kernel
theorem dX3_put_32 : decode cX3_put 32 = .ok (.aload_n 0, 1) := by decide +kernel
theorem dX3_put_33 : decode cX3_put 33 = .ok (.dup, 1) := by decide +kernel
theorem dX3_put_34 : decode cX3_put 34 = .ok (.getfield 15, 3) := by decide +kernel
theorem dX3_put_37 : decode cX3_put 37 = .ok (.iconst 1, 1) := by decide +kernel
theorem dX3_put_38 : decode cX3_put 38 = .ok (.iadd, 1) := by decide +kernel
theorem dX3_put_39 : decode cX3_put 39 = .ok (.putfield 15, 3) := by decide +kernel
theorem dX3_put_42 : decode cX3_put 42 = .ok (.iinc 2 (-8), 3) := by decide +kernel
theorem dX3_put_45 : decode cX3_put 45 = .ok (.goto (-42), 3) := by decide +kernel
theorem dX3_put_48 : decode cX3_put 48 = .ok (.return_, 1) := by decide +kernel
theorem dX3_at_0 : decode cX3_at 0 = .ok (.iload_n 1, 1) := by decide +kernel
theorem dX3_at_1 : decode cX3_at 1 = .ok (.ifCond .lt 20, 3) := by decide +kernel
theorem dX3_at_4 : decode cX3_at 4 = .ok (.iload_n 1, 1) := by decide +kernel
theorem dX3_at_5 : decode cX3_at 5 = .ok (.aload_n 0, 1) := by decide +kernel
theorem dX3_at_6 : decode cX3_at 6 = .ok (.getfield 15, 3) := by decide +kernel
theorem dX3_at_9 : decode cX3_at 9 = .ok (.if_icmp .ge 12, 3) := by decide +kernel
theorem dX3_at_12 : decode cX3_at 12 = .ok (.aload_n 0, 1) := by decide +kernel
theorem dX3_at_13 : decode cX3_at 13 = .ok (.getfield 11, 3) := by decide +kernel
theorem dX3_at_16 : decode cX3_at 16 = .ok (.iload_n 1, 1) := by decide +kernel
theorem dX3_at_17 : decode cX3_at 17 = .ok (.iaload, 1) := by decide +kernel
theorem dX3_at_18 : decode cX3_at 18 = .ok (.goto 4, 3) := by decide +kernel
theorem dX3_at_21 : decode cX3_at 21 = .ok (.iconst (-1), 1) := by decide +kernel
theorem dX3_at_22 : decode cX3_at 22 = .ok (.ireturn, 1) := by decide +kernel
theorem dX3_empty_0 : decode cX3_empty 0 = .ok (.aload_n 0, 1) := by decide +kernel
theorem dX3_empty_1 : decode cX3_empty 1 = .ok (.iconst 0, 1) := by decide +kernel
theorem dX3_empty_2 : decode cX3_empty 2 = .ok (.putfield 15, 3) := by decide +kernel
theorem dX3_empty_5 : decode cX3_empty 5 = .ok (.return_, 1) := by decide +kernel
theorem dX4_init_0 : decode cX4_init 0 = .ok (.aload_n 0, 1) := by decide +kernel
theorem dX4_init_1 : decode cX4_init 1 = .ok (.invokespecial 1, 3) := by decide +kernel
theorem dX4_init_4 : decode cX4_init 4 = .ok (.aload_n 0, 1) := by decide +kernel
theorem dX4_init_5 : decode cX4_init 5 = .ok (.bipush 8, 2) := by decide +kernel
theorem dX4_init_7 : decode cX4_init 7 = .ok (.newarray .int, 2) := by decide +kernel
theorem dX4_init_9 : decode cX4_init 9 = .ok (.putfield 9, 3) := by decide +kernel
theorem dX4_init_12 : decode cX4_init 12 = .ok (.aload_n 0, 1) := by decide +kernel
theorem dX4_init_13 : decode cX4_init 13 = .ok (.bipush 8, 2) := by decide +kernel
theorem dX4_init_15 : decode cX4_init 15 = .ok (.newarray .int, 2) := by decide +kernel
theorem dX4_init_17 : decode cX4_init 17 = .ok (.putfield 13, 3) := by decide +kernel
theorem dX4_init_20 : decode cX4_init 20 = .ok (.aload_n 0, 1) := by decide +kernel
theorem dX4_init_21 : decode cX4_init 21 = .ok (.aload_n 1, 1) := by decide +kernel
theorem dX4_init_22 : decode cX4_init 22 = .ok (.putfield 16, 3) := by decide +kernel
theorem dX4_init_25 : decode cX4_init 25 = .ok (.return_, 1) := by decide +kernel
theorem dX4_addIce_0 : decode cX4_addIce 0 = .ok (.aload_n 0, 1) := by decide +kernel
theorem dX4_addIce_1 : decode cX4_addIce 1 = .ok (.getfield 20, 3) := by decide +kernel
theorem dX4_addIce_4 : decode cX4_addIce 4 = .ok (.bipush 8, 2) := by decide +kernel
theorem dX4_addIce_6 : decode cX4_addIce 6 = .ok (.if_icmp .lt 5, 3) := by decide +kernel
theorem dX4_addIce_9 : decode cX4_addIce 9 = .ok (.iconst 0, 1) := by decide +kernel
theorem dX4_addIce_10 : decode cX4_addIce 10 = .ok (.ireturn, 1) := by decide +kernel
theorem dX4_addIce_11 : decode cX4_addIce 11 = .ok (.aload_n 0, 1) := by decide +kernel
theorem dX4_addIce_12 : decode cX4_addIce 12 = .ok (.getfield 9, 3) := by decide +kernel
theorem dX4_addIce_15 : decode cX4_addIce 15 = .ok (.aload_n 0, 1) := by decide +kernel
theorem dX4_addIce_16 : decode cX4_addIce 16 = .ok (.getfield 20, 3) := by decide +kernel
theorem dX4_addIce_19 : decode cX4_addIce 19 = .ok (.iload_n 1, 1) := by decide +kernel
theorem dX4_addIce_20 : decode cX4_addIce 20 = .ok (.iastore, 1) := by decide +kernel
theorem dX4_addIce_21 : decode cX4_addIce 21 = .ok (.aload_n 0, 1) := by decide +kernel
theorem dX4_addIce_22 : decode cX4_addIce 22 = .ok (.getfield 13, 3) := by decide +kernel
theorem dX4_addIce_25 : decode cX4_addIce 25 = .ok (.aload_n 0, 1) := by decide +kernel
theorem dX4_addIce_26 : decode cX4_addIce 26 = .ok (.getfield 20, 3) := by decide +kernel
theorem dX4_addIce_29 : decode cX4_addIce 29 = .ok (.iload_n 2, 1) := by decide +kernel
theorem dX4_addIce_30 : decode cX4_addIce 30 = .ok (.iastore, 1) := by decide +kernel
theorem dX4_addIce_31 : decode cX4_addIce 31 = .ok (.aload_n 0, 1) := by decide +kernel
theorem dX4_addIce_32 : decode cX4_addIce 32 = .ok (.dup, 1) := by decide +kernel
theorem dX4_addIce_33 : decode cX4_addIce 33 = .ok (.getfield 20, 3) := by decide +kernel
theorem dX4_addIce_36 : decode cX4_addIce 36 = .ok (.iconst 1, 1) := by decide +kernel
theorem dX4_addIce_37 : decode cX4_addIce 37 = .ok (.iadd, 1) := by decide +kernel
theorem dX4_addIce_38 : decode cX4_addIce 38 = .ok (.putfield 20, 3) := by decide +kernel
theorem dX4_addIce_41 : decode cX4_addIce 41 = .ok (.iconst 1, 1) := by decide +kernel
theorem dX4_addIce_42 : decode cX4_addIce 42 = .ok (.ireturn, 1) := by decide +kernel
set_option maxRecDepth 20000 in
theorem ggX4_endOf_X1_number : GoodIn wsX4_endOf wsX1_number := goodIn_r _ [6, 7, 20, 21, 22, 23, 24] (by decide +kernel) (by decide +kernel)
set_option maxRecDepth 20000 in
theorem gX4_endOf_X1_number : GoodIn wsX4_endOf (wsV RX4 26 RX1 yX1_number wsX1_number) := goodIn_app (goodIn_of _ (by decide +kernel)) ggX4_endOf_X1_number
set_option maxRecDepth 20000 in
theorem ggX4_endOf_X4_inIce : GoodIn wsX4_endOf wsX4_inIce := goodIn_r _ [12, 13, 14, 15, 16, 17, 18, 19] (by decide +kernel) (by decide +kernel)
set_option maxRecDepth 20000 in
theorem gX4_endOf_X4_inIce : GoodIn wsX4_endOf (wsV RX4 30 RX4 yX4_inIce wsX4_inIce) := goodIn_app (goodIn_of _ (by decide +kernel)) ggX4_endOf_X4_inIce
theorem dX4_endOf_0 : decode cX4_endOf 0 = .ok (.iload_n 1, 1) := by decide +kernel
theorem dX4_endOf_1 : decode cX4_endOf 1 = .ok (.aload_n 0, 1) := by decide +kernel
theorem dX4_endOf_2 : decode cX4_endOf 2 = .ok (.getfield 16, 3) := by decide +kernel
theorem dX4_endOf_5 : decode cX4_endOf 5 = .ok (.iconst 0, 1) := by decide +kernel
theorem dX4_endOf_6 : decode cX4_endOf 6 = .ok (.invokevirtual 26, 3) := by decide +kernel
theorem dX4_endOf_9 : decode cX4_endOf 9 = .ok (.iadd, 1) := by decide +kernel
theorem dX4_endOf_10 : decode cX4_endOf 10 = .ok (.iconst 2, 1) := by decide +kernel
theorem dX4_endOf_11 : decode cX4_endOf 11 = .ok (.aload_n 0, 1) := by decide +kernel
theorem dX4_endOf_12 : decode cX4_endOf 12 = .ok (.getfield 16, 3) := by decide +kernel
theorem dX4_endOf_15 : decode cX4_endOf 15 = .ok (.iconst 1, 1) := by decide +kernel
theorem dX4_endOf_16 : decode cX4_endOf 16 = .ok (.invokevirtual 26, 3) := by decide +kernel
theorem dX4_endOf_19 : decode cX4_endOf 19 = .ok (.imul, 1) := by decide +kernel
theorem dX4_endOf_20 : decode cX4_endOf 20 = .ok (.iadd, 1) := by decide +kernel
theorem dX4_endOf_21 : decode cX4_endOf 21 = .ok (.istore_n 2, 1) := by decide +kernel
theorem dX4_endOf_22 : decode cX4_endOf 22 = .ok (.aload_n 0, 1) := by decide +kernel
theorem dX4_endOf_23 : decode cX4_endOf 23 = .ok (.iload_n 1, 1) := by decide +kernel
theorem dX4_endOf_24 : decode cX4_endOf 24 = .ok (.invokevirtual 30, 3) := by decide +kernel
theorem dX4_endOf_27 : decode cX4_endOf 27 = .ok (.ifCond .eq 16, 3) := by decide +kernel
theorem dX4_endOf_30 : decode cX4_endOf 30 = .ok (.iload_n 2, 1) := by decide +kernel
theorem dX4_endOf_31 : decode cX4_endOf 31 = .ok (.aload_n 0, 1) := by decide +kernel
theorem dX4_endOf_32 : decode cX4_endOf 32 = .ok (.getfield 16, 3) := by decide +kernel
theorem dX4_endOf_35 : decode cX4_endOf 35 = .ok (.iconst 2, 1) := by decide +kernel
theorem dX4_endOf_36 : decode cX4_endOf 36 = .ok (.invokevirtual 26, 3) := by decide +kernel
theorem dX4_endOf_39 : decode cX4_endOf 39 = .ok (.iadd, 1) := by decide +kernel
theorem dX4_endOf_40 : decode cX4_endOf 40 = .ok (.goto 4, 3) := by decide +kernel
theorem dX4_endOf_43 : decode cX4_endOf 43 = .ok (.iload_n 2, 1) := by decide +kernel
theorem dX4_endOf_44 : decode cX4_endOf 44 = .ok (.ireturn, 1) := by decide +kernel
theorem dX4_inIce_0 : decode cX4_inIce 0 = .ok (.iconst 0, 1) := by decide +kernel
theorem dX4_inIce_1 : decode cX4_inIce 1 = .ok (.istore_n 2, 1) := by decide +kernel
theorem dX4_inIce_2 : decode cX4_inIce 2 = .ok (.iload_n 2, 1) := by decide +kernel
theorem dX4_inIce_3 : decode cX4_inIce 3 = .ok (.aload_n 0, 1) := by decide +kernel
theorem dX4_inIce_4 : decode cX4_inIce 4 = .ok (.getfield 20, 3) := by decide +kernel
theorem dX4_inIce_7 : decode cX4_inIce 7 = .ok (.if_icmp .ge 37, 3) := by decide +kernel
theorem dX4_inIce_10 : decode cX4_inIce 10 = .ok (.iload_n 2, 1) := by decide +kernel
theorem dX4_inIce_11 : decode cX4_inIce 11 = .ok (.bipush 8, 2) := by decide +kernel
theorem dX4_inIce_13 : decode cX4_inIce 13 = .ok (.if_icmp .ge 31, 3) := by decide +kernel
theorem dX4_inIce_16 : decode cX4_inIce 16 = .ok (.aload_n 0, 1) := by decide +kernel
theorem dX4_inIce_17 : decode cX4_inIce 17 = .ok (.getfield 9, 3) := by decide +kernel
theorem dX4_inIce_20 : decode cX4_inIce 20 = .ok (.iload_n 2, 1) := by decide +kernel
theorem dX4_inIce_21 : decode cX4_inIce 21 = .ok (.iaload, 1) := by decide +kernel
theorem dX4_inIce_22 : decode cX4_inIce 22 = .ok (.iload_n 1, 1) := by decide +kernel
theorem dX4_inIce_23 : decode cX4_inIce 23 = .ok (.if_icmp .gt 15, 3) := by decide +kernel
theorem dX4_inIce_26 : decode cX4_inIce 26 = .ok (.iload_n 1, 1) := by decide +kernel
theorem dX4_inIce_27 : decode cX4_inIce 27 = .ok (.aload_n 0, 1) := by decide +kernel
theorem dX4_inIce_28 : decode cX4_inIce 28 = .ok (.getfield 13, 3) := by decide +kernel
theorem dX4_inIce_31 : decode cX4_inIce 31 = .ok (.iload_n 2, 1) := by decide +kernel
theorem dX4_inIce_32 : decode cX4_inIce 32 = .ok (.iaload, 1) := by decide +kernel
theorem dX4_inIce_33 : decode cX4_inIce 33 = .ok (.if_icmp .ge 5, 3) := by decide +kernel
theorem dX4_inIce_36 : decode cX4_inIce 36 = .ok (.iconst 1, 1) := by decide +kernel
theorem dX4_inIce_37 : decode cX4_inIce 37 = .ok (.ireturn, 1) := by decide +kernel
theorem dX4_inIce_38 : decode cX4_inIce 38 = .ok (.iinc 2 1, 3) := by decide +kernel
theorem dX4_inIce_41 : decode cX4_inIce 41 = .ok (.goto (-39), 3) := by decide +kernel
theorem dX4_inIce_44 : decode cX4_inIce 44 = .ok (.iconst 0, 1) := by decide +kernel
theorem dX4_inIce_45 : decode cX4_inIce 45 = .ok (.ireturn, 1) := by decide +kernel
theorem dX5_init_0 : decode cX5_init 0 = .ok (.aload_n 0, 1) := by decide +kernel
theorem dX5_init_1 : decode cX5_init 1 = .ok (.invokespecial 1, 3) := by decide +kernel
theorem dX5_init_4 : decode cX5_init 4 = .ok (.aload_n 0, 1) := by decide +kernel
theorem dX5_init_5 : decode cX5_init 5 = .ok (.sipush 1000, 3) := by decide +kernel
theorem dX5_init_8 : decode cX5_init 8 = .ok (.putfield 7, 3) := by decide +kernel
theorem dX5_init_11 : decode cX5_init 11 = .ok (.return_, 1) := by decide +kernel
theorem dX5_spreadOver_0 : decode cX5_spreadOver 0 = .ok (.aload_n 0, 1) := by decide +kernel
theorem dX5_spreadOver_1 : decode cX5_spreadOver 1 = .ok (.iload_n 1, 1) := by decide +kernel
theorem dX5_spreadOver_2 : decode cX5_spreadOver 2 = .ok (.putfield 7, 3) := by decide +kernel
theorem dX5_spreadOver_5 : decode cX5_spreadOver 5 = .ok (.return_, 1) := by decide +kernel
theorem dX5_spread_0 : decode cX5_spread 0 = .ok (.aload_n 0, 1) := by decide +kernel
theorem dX5_spread_1 : decode cX5_spread 1 = .ok (.getfield 7, 3) := by decide +kernel
theorem dX5_spread_4 : decode cX5_spread 4 = .ok (.ireturn, 1) := by decide +kernel
theorem dX5_gain_0 : decode cX5_gain 0 = .ok (.aload_n 0, 1) := by decide +kernel
theorem dX5_gain_1 : decode cX5_gain 1 = .ok (.dup, 1) := by decide +kernel
theorem dX5_gain_2 : decode cX5_gain 2 = .ok (.getfield 13, 3) := by decide +kernel
theorem dX5_gain_5 : decode cX5_gain 5 = .ok (.iload_n 1, 1) := by decide +kernel
theorem dX5_gain_6 : decode cX5_gain 6 = .ok (.i2l, 1) := by decide +kernel
theorem dX5_gain_7 : decode cX5_gain 7 = .ok (.ladd, 1) := by decide +kernel
theorem dX5_gain_8 : decode cX5_gain 8 = .ok (.putfield 13, 3) := by decide +kernel
theorem dX5_gain_11 : decode cX5_gain 11 = .ok (.return_, 1) := by decide +kernel
theorem dX5_tonnes_0 : decode cX5_tonnes 0 = .ok (.aload_n 0, 1) := by decide +kernel
theorem dX5_tonnes_1 : decode cX5_tonnes 1 = .ok (.getfield 13, 3) := by decide +kernel
theorem dX5_tonnes_4 : decode cX5_tonnes 4 = .ok (.lreturn, 1) := by decide +kernel
set_option maxRecDepth 20000 in
theorem ggX5_centimetres_J9_floorDiv_f86c9 : GoodIn wsX5_centimetres wsJ9_floorDiv_f86c9 := goodIn_r _ [6] (by decide +kernel) (by decide +kernel)
set_option maxRecDepth 20000 in
theorem gX5_centimetres_J9_floorDiv_f86c9 : GoodIn wsX5_centimetres (va_wsS RX5 17 yJ9_floorDiv_f86c9 wsJ9_floorDiv_f86c9) := goodIn_app (goodIn_of _ (by decide +kernel)) ggX5_centimetres_J9_floorDiv_f86c9
theorem dX5_centimetres_0 : decode cX5_centimetres 0 = .ok (.aload_n 0, 1) := by decide +kernel
theorem dX5_centimetres_1 : decode cX5_centimetres 1 = .ok (.getfield 7, 3) := by decide +kernel
theorem dX5_centimetres_4 : decode cX5_centimetres 4 = .ok (.ifCond .le 19, 3) := by decide +kernel
theorem dX5_centimetres_7 : decode cX5_centimetres 7 = .ok (.aload_n 0, 1) := by decide +kernel
theorem dX5_centimetres_8 : decode cX5_centimetres 8 = .ok (.getfield 13, 3) := by decide +kernel
theorem dX5_centimetres_11 : decode cX5_centimetres 11 = .ok (.aload_n 0, 1) := by decide +kernel
theorem dX5_centimetres_12 : decode cX5_centimetres 12 = .ok (.getfield 7, 3) := by decide +kernel
theorem dX5_centimetres_15 : decode cX5_centimetres 15 = .ok (.i2l, 1) := by decide +kernel
theorem dX5_centimetres_16 : decode cX5_centimetres 16 = .ok (.invokestatic 17, 3) := by decide +kernel
theorem dX5_centimetres_19 : decode cX5_centimetres 19 = .ok (.l2i, 1) := by decide +kernel
theorem dX5_centimetres_20 : decode cX5_centimetres 20 = .ok (.goto 4, 3) := by decide +kernel
theorem dX5_centimetres_23 : decode cX5_centimetres 23 = .ok (.iconst 0, 1) := by decide +kernel
theorem dX5_centimetres_24 : decode cX5_centimetres 24 = .ok (.ireturn, 1) := by decide +kernel
set_option maxRecDepth 20000 in
theorem ggX5_decimetres_X5_centimetres : GoodIn wsX5_decimetres wsX5_centimetres := goodIn_r _ [5, 6, 7, 8, 9, 10, 11, 15, 16] (by decide +kernel) (by decide +kernel)
set_option maxRecDepth 20000 in
theorem gX5_decimetres_X5_centimetres : GoodIn wsX5_decimetres (wsV RX5 23 RX5 yX5_centimetres wsX5_centimetres) := goodIn_app (goodIn_of _ (by decide +kernel)) ggX5_decimetres_X5_centimetres
set_option maxRecDepth 20000 in
theorem ggX5_decimetres_J9_floorDiv_7cf53 : GoodIn wsX5_decimetres wsJ9_floorDiv_7cf53 := goodIn_r _ [14] (by decide +kernel) (by decide +kernel)
set_option maxRecDepth 20000 in
theorem gX5_decimetres_J9_floorDiv_7cf53 : GoodIn wsX5_decimetres (va_wsS RX5 27 yJ9_floorDiv_7cf53 wsJ9_floorDiv_7cf53) := goodIn_app (goodIn_of _ (by decide +kernel)) ggX5_decimetres_J9_floorDiv_7cf53
theorem dX5_decimetres_0 : decode cX5_decimetres 0 = .ok (.bipush 30, 2) := by decide +kernel
theorem dX5_decimetres_2 : decode cX5_decimetres 2 = .ok (.aload_n 0, 1) := by decide +kernel
theorem dX5_decimetres_3 : decode cX5_decimetres 3 = .ok (.invokevirtual 23, 3) := by decide +kernel
theorem dX5_decimetres_6 : decode cX5_decimetres 6 = .ok (.bipush 10, 2) := by decide +kernel
theorem dX5_decimetres_8 : decode cX5_decimetres 8 = .ok (.invokestatic 27, 3) := by decide +kernel
theorem dX5_decimetres_11 : decode cX5_decimetres 11 = .ok (.iadd, 1) := by decide +kernel
theorem dX5_decimetres_12 : decode cX5_decimetres 12 = .ok (.ireturn, 1) := by decide +kernel
set_option maxRecDepth 20000 in
theorem ggX6_init_X3_init : GoodIn wsX6_init wsX3_init := goodIn_r _ [33, 34, 2, 3, 35, 36, 86, 87] (by decide +kernel) (by decide +kernel)
set_option maxRecDepth 20000 in
theorem gX6_init_X3_init_n9 : GoodIn wsX6_init (wsX3_init) := ggX6_init_X3_init
set_option maxRecDepth 20000 in
theorem ggX6_init_X1_init : GoodIn wsX6_init wsX1_init := goodIn_r _ [39, 40, 2, 3, 41, 42, 43, 44, 45, 46, 47, 48, 49, 50, 103, 104, 105, 106, 107] (by decide +kernel) (by decide +kernel)
set_option maxRecDepth 20000 in
theorem gX6_init_X1_init : GoodIn wsX6_init (wsX1_init) := ggX6_init_X1_init
set_option maxRecDepth 20000 in
theorem ggX6_init_X4_init : GoodIn wsX6_init wsX4_init := goodIn_r _ [53, 54, 2, 3, 35, 55, 56, 57, 108, 109, 110, 111] (by decide +kernel) (by decide +kernel)
set_option maxRecDepth 20000 in
theorem gX6_init_X4_init : GoodIn wsX6_init (wsX4_init) := ggX6_init_X4_init
set_option maxRecDepth 20000 in
theorem ggX6_init_X2_init : GoodIn wsX6_init wsX2_init := goodIn_r _ [60, 61, 2, 3, 35, 62, 63, 64, 65, 66, 112, 113, 114, 115, 116, 117, 118, 119, 120] (by decide +kernel) (by decide +kernel)
set_option maxRecDepth 20000 in
theorem gX6_init_X2_init : GoodIn wsX6_init (wsX2_init) := ggX6_init_X2_init
set_option maxRecDepth 20000 in
theorem ggX6_init_X5_init : GoodIn wsX6_init wsX5_init := goodIn_r _ [68, 69, 2, 3, 70, 121, 122] (by decide +kernel) (by decide +kernel)
set_option maxRecDepth 20000 in
theorem gX6_init_X5_init_n45 : GoodIn wsX6_init (wsX5_init) := ggX6_init_X5_init
set_option maxRecDepth 20000 in
theorem ggX6_init_Jx4a65c_init_da8c8 : GoodIn wsX6_init wsJx4a65c_init_da8c8 := goodIn_r _ [73, 74, 75, 76, 77, 78, 79, 80, 81, 82, 83, 84, 85, 2, 3, 123, 124, 125] (by decide +kernel) (by decide +kernel)
set_option maxRecDepth 20000 in
theorem gX6_init_Jx4a65c_init_da8c8 : GoodIn wsX6_init (wsJx4a65c_init_da8c8) := ggX6_init_Jx4a65c_init_da8c8
theorem dX6_init_0 : decode cX6_init 0 = .ok (.aload_n 0, 1) := by decide +kernel
theorem dX6_init_1 : decode cX6_init 1 = .ok (.invokespecial 1, 3) := by decide +kernel
theorem dX6_init_4 : decode cX6_init 4 = .ok (.aload_n 0, 1) := by decide +kernel
theorem dX6_init_5 : decode cX6_init 5 = .ok (.new 7, 3) := by decide +kernel
theorem dX6_init_8 : decode cX6_init 8 = .ok (.dup, 1) := by decide +kernel
theorem dX6_init_9 : decode cX6_init 9 = .ok (.invokespecial 9, 3) := by decide +kernel
theorem dX6_init_12 : decode cX6_init 12 = .ok (.putfield 10, 3) := by decide +kernel
theorem dX6_init_15 : decode cX6_init 15 = .ok (.aload_n 0, 1) := by decide +kernel
theorem dX6_init_16 : decode cX6_init 16 = .ok (.new 16, 3) := by decide +kernel
theorem dX6_init_19 : decode cX6_init 19 = .ok (.dup, 1) := by decide +kernel
theorem dX6_init_20 : decode cX6_init 20 = .ok (.aload_n 0, 1) := by decide +kernel
theorem dX6_init_21 : decode cX6_init 21 = .ok (.getfield 10, 3) := by decide +kernel
theorem dX6_init_24 : decode cX6_init 24 = .ok (.invokespecial 18, 3) := by decide +kernel
theorem dX6_init_27 : decode cX6_init 27 = .ok (.putfield 21, 3) := by decide +kernel
theorem dX6_init_30 : decode cX6_init 30 = .ok (.aload_n 0, 1) := by decide +kernel
theorem dX6_init_31 : decode cX6_init 31 = .ok (.new 25, 3) := by decide +kernel
theorem dX6_init_34 : decode cX6_init 34 = .ok (.dup, 1) := by decide +kernel
theorem dX6_init_35 : decode cX6_init 35 = .ok (.aload_n 0, 1) := by decide +kernel
theorem dX6_init_36 : decode cX6_init 36 = .ok (.getfield 21, 3) := by decide +kernel
theorem dX6_init_39 : decode cX6_init 39 = .ok (.invokespecial 27, 3) := by decide +kernel
theorem dX6_init_42 : decode cX6_init 42 = .ok (.putfield 30, 3) := by decide +kernel
theorem dX6_init_45 : decode cX6_init 45 = .ok (.aload_n 0, 1) := by decide +kernel
theorem dX6_init_46 : decode cX6_init 46 = .ok (.new 34, 3) := by decide +kernel
theorem dX6_init_49 : decode cX6_init 49 = .ok (.dup, 1) := by decide +kernel
theorem dX6_init_50 : decode cX6_init 50 = .ok (.aload_n 0, 1) := by decide +kernel
theorem dX6_init_51 : decode cX6_init 51 = .ok (.getfield 30, 3) := by decide +kernel
theorem dX6_init_54 : decode cX6_init 54 = .ok (.invokespecial 36, 3) := by decide +kernel
theorem dX6_init_57 : decode cX6_init 57 = .ok (.putfield 39, 3) := by decide +kernel
theorem dX6_init_60 : decode cX6_init 60 = .ok (.aload_n 0, 1) := by decide +kernel
theorem dX6_init_61 : decode cX6_init 61 = .ok (.new 43, 3) := by decide +kernel
theorem dX6_init_64 : decode cX6_init 64 = .ok (.dup, 1) := by decide +kernel
theorem dX6_init_65 : decode cX6_init 65 = .ok (.invokespecial 45, 3) := by decide +kernel
theorem dX6_init_68 : decode cX6_init 68 = .ok (.putfield 46, 3) := by decide +kernel
theorem dX6_init_71 : decode cX6_init 71 = .ok (.aload_n 0, 1) := by decide +kernel
theorem dX6_init_72 : decode cX6_init 72 = .ok (.new 43, 3) := by decide +kernel
theorem dX6_init_75 : decode cX6_init 75 = .ok (.dup, 1) := by decide +kernel
theorem dX6_init_76 : decode cX6_init 76 = .ok (.invokespecial 45, 3) := by decide +kernel
theorem dX6_init_79 : decode cX6_init 79 = .ok (.putfield 50, 3) := by decide +kernel
theorem dX6_init_82 : decode cX6_init 82 = .ok (.aload_n 0, 1) := by decide +kernel
theorem dX6_init_83 : decode cX6_init 83 = .ok (.new 53, 3) := by decide +kernel
theorem dX6_init_86 : decode cX6_init 86 = .ok (.dup, 1) := by decide +kernel
theorem dX6_init_87 : decode cX6_init 87 = .ok (.invokespecial 55, 3) := by decide +kernel
theorem dX6_init_90 : decode cX6_init 90 = .ok (.putfield 56, 3) := by decide +kernel
theorem dX6_init_93 : decode cX6_init 93 = .ok (.aload_n 0, 1) := by decide +kernel
theorem dX6_init_94 : decode cX6_init 94 = .ok (.new 53, 3) := by decide +kernel
theorem dX6_init_97 : decode cX6_init 97 = .ok (.dup, 1) := by decide +kernel
theorem dX6_init_98 : decode cX6_init 98 = .ok (.invokespecial 55, 3) := by decide +kernel
theorem dX6_init_101 : decode cX6_init 101 = .ok (.putfield 60, 3) := by decide +kernel
theorem dX6_init_104 : decode cX6_init 104 = .ok (.aload_n 0, 1) := by decide +kernel
theorem dX6_init_105 : decode cX6_init 105 = .ok (.bipush 100, 2) := by decide +kernel
theorem dX6_init_107 : decode cX6_init 107 = .ok (.putfield 63, 3) := by decide +kernel
theorem dX6_init_110 : decode cX6_init 110 = .ok (.aload_n 0, 1) := by decide +kernel
theorem dX6_init_111 : decode cX6_init 111 = .ok (.iconst 0, 1) := by decide +kernel
theorem dX6_init_112 : decode cX6_init 112 = .ok (.putfield 67, 3) := by decide +kernel
theorem dX6_init_115 : decode cX6_init 115 = .ok (.return_, 1) := by decide +kernel
set_option maxRecDepth 20000 in
theorem ggX6_feed_X3_hasRoom : GoodIn wsX6_feed wsX3_hasRoom := goodIn_r _ [6, 7, 32, 33] (by decide +kernel) (by decide +kernel)
set_option maxRecDepth 20000 in
theorem gX6_feed_X3_hasRoom : GoodIn wsX6_feed (wsV RX6 70 RX3 yX3_hasRoom wsX3_hasRoom) := goodIn_app (goodIn_of _ (by decide +kernel)) ggX6_feed_X3_hasRoom
set_option maxRecDepth 20000 in
theorem ggX6_feed_X3_put : GoodIn wsX6_feed wsX3_put := goodIn_r _ [11, 7, 12, 32, 33] (by decide +kernel) (by decide +kernel)
set_option maxRecDepth 20000 in
theorem gX6_feed_X3_put : GoodIn wsX6_feed (wsV RX6 74 RX3 yX3_put wsX3_put) := goodIn_app (goodIn_of _ (by decide +kernel)) ggX6_feed_X3_put
set_option maxRecDepth 20000 in
theorem ggX6_feed_X3_size : GoodIn wsX6_feed wsX3_size := goodIn_r _ [16, 7, 32, 33] (by decide +kernel) (by decide +kernel)
set_option maxRecDepth 20000 in
theorem gX6_feed_X3_size : GoodIn wsX6_feed (wsV RX6 78 RX3 yX3_size wsX3_size) := goodIn_app (goodIn_of _ (by decide +kernel)) ggX6_feed_X3_size
theorem dX6_feed_0 : decode cX6_feed 0 = .ok (.aload_n 0, 1) := by decide +kernel
theorem dX6_feed_1 : decode cX6_feed 1 = .ok (.getfield 10, 3) := by decide +kernel
theorem dX6_feed_4 : decode cX6_feed 4 = .ok (.invokevirtual 70, 3) := by decide +kernel
theorem dX6_feed_7 : decode cX6_feed 7 = .ok (.ifCond .ne 5, 3) := by decide +kernel
theorem dX6_feed_10 : decode cX6_feed 10 = .ok (.iconst (-1), 1) := by decide +kernel
theorem dX6_feed_11 : decode cX6_feed 11 = .ok (.ireturn, 1) := by decide +kernel
theorem dX6_feed_12 : decode cX6_feed 12 = .ok (.aload_n 0, 1) := by decide +kernel
theorem dX6_feed_13 : decode cX6_feed 13 = .ok (.getfield 10, 3) := by decide +kernel
theorem dX6_feed_16 : decode cX6_feed 16 = .ok (.iload_n 1, 1) := by decide +kernel
theorem dX6_feed_17 : decode cX6_feed 17 = .ok (.invokevirtual 74, 3) := by decide +kernel
theorem dX6_feed_20 : decode cX6_feed 20 = .ok (.aload_n 0, 1) := by decide +kernel
theorem dX6_feed_21 : decode cX6_feed 21 = .ok (.getfield 10, 3) := by decide +kernel
theorem dX6_feed_24 : decode cX6_feed 24 = .ok (.iload_n 2, 1) := by decide +kernel
theorem dX6_feed_25 : decode cX6_feed 25 = .ok (.invokevirtual 74, 3) := by decide +kernel
theorem dX6_feed_28 : decode cX6_feed 28 = .ok (.aload_n 0, 1) := by decide +kernel
theorem dX6_feed_29 : decode cX6_feed 29 = .ok (.getfield 10, 3) := by decide +kernel
theorem dX6_feed_32 : decode cX6_feed 32 = .ok (.iload_n 3, 1) := by decide +kernel
theorem dX6_feed_33 : decode cX6_feed 33 = .ok (.invokevirtual 74, 3) := by decide +kernel
theorem dX6_feed_36 : decode cX6_feed 36 = .ok (.aload_n 0, 1) := by decide +kernel
theorem dX6_feed_37 : decode cX6_feed 37 = .ok (.getfield 10, 3) := by decide +kernel
theorem dX6_feed_40 : decode cX6_feed 40 = .ok (.iload 4, 2) := by decide +kernel
theorem dX6_feed_42 : decode cX6_feed 42 = .ok (.invokevirtual 74, 3) := by decide +kernel
theorem dX6_feed_45 : decode cX6_feed 45 = .ok (.aload_n 0, 1) := by decide +kernel
theorem dX6_feed_46 : decode cX6_feed 46 = .ok (.getfield 10, 3) := by decide +kernel
theorem dX6_feed_49 : decode cX6_feed 49 = .ok (.iload 5, 2) := by decide +kernel
theorem dX6_feed_51 : decode cX6_feed 51 = .ok (.invokevirtual 74, 3) := by decide +kernel
theorem dX6_feed_54 : decode cX6_feed 54 = .ok (.aload_n 0, 1) := by decide +kernel
theorem dX6_feed_55 : decode cX6_feed 55 = .ok (.getfield 10, 3) := by decide +kernel
theorem dX6_feed_58 : decode cX6_feed 58 = .ok (.invokevirtual 78, 3) := by decide +kernel
theorem dX6_feed_61 : decode cX6_feed 61 = .ok (.ireturn, 1) := by decide +kernel
set_option maxRecDepth 20000 in
theorem ggX6_law_X3_size : GoodIn wsX6_law wsX3_size := goodIn_r _ [7, 8, 76, 77] (by decide +kernel) (by decide +kernel)
set_option maxRecDepth 20000 in
theorem gX6_law_X3_size : GoodIn wsX6_law (wsV RX6 78 RX3 yX3_size wsX3_size) := goodIn_app (goodIn_of _ (by decide +kernel)) ggX6_law_X3_size
set_option maxRecDepth 20000 in
theorem ggX6_law_X6_within : GoodIn wsX6_law wsX6_within := goodIn_r _ [12] (by decide +kernel) (by decide +kernel)
set_option maxRecDepth 20000 in
theorem gX6_law_X6_within : GoodIn wsX6_law (va_wsS RX6 82 yX6_within wsX6_within) := goodIn_app (goodIn_of _ (by decide +kernel)) ggX6_law_X6_within
set_option maxRecDepth 20000 in
theorem ggX6_law_X1_enact : GoodIn wsX6_law wsX1_enact := goodIn_r _ [17, 18, 19, 20, 21, 22, 23, 24, 25, 26, 27, 28, 29, 16, 30, 31, 32, 33, 34, 35, 36, 37, 38, 39, 40, 41, 42, 43, 44, 6, 45, 8, 46, 47, 48, 49, 50, 51, 52, 53, 54, 55, 56, 78, 79, 80, 81, 82, 76, 77] (by decide +kernel) (by decide +kernel)
set_option maxRecDepth 20000 in
theorem gX6_law_X1_enact : GoodIn wsX6_law (wsV RX6 86 RX1 yX1_enact wsX1_enact) := goodIn_app (goodIn_of _ (by decide +kernel)) ggX6_law_X1_enact
set_option maxRecDepth 20000 in
theorem ggX6_law_X3_empty : GoodIn wsX6_law wsX3_empty := goodIn_r _ [60, 8, 76, 77] (by decide +kernel) (by decide +kernel)
set_option maxRecDepth 20000 in
theorem gX6_law_X3_empty : GoodIn wsX6_law (wsV RX6 90 RX3 yX3_empty wsX3_empty) := goodIn_app (goodIn_of _ (by decide +kernel)) ggX6_law_X3_empty
theorem dX6_law_0 : decode cX6_law 0 = .ok (.iload_n 1, 1) := by decide +kernel
theorem dX6_law_1 : decode cX6_law 1 = .ok (.iconst 0, 1) := by decide +kernel
theorem dX6_law_2 : decode cX6_law 2 = .ok (.aload_n 0, 1) := by decide +kernel
theorem dX6_law_3 : decode cX6_law 3 = .ok (.getfield 10, 3) := by decide +kernel
theorem dX6_law_6 : decode cX6_law 6 = .ok (.invokevirtual 78, 3) := by decide +kernel
theorem dX6_law_9 : decode cX6_law 9 = .ok (.invokestatic 82, 3) := by decide +kernel
theorem dX6_law_12 : decode cX6_law 12 = .ok (.ifCond .ne 5, 3) := by decide +kernel
theorem dX6_law_15 : decode cX6_law 15 = .ok (.iconst (-1), 1) := by decide +kernel
theorem dX6_law_16 : decode cX6_law 16 = .ok (.ireturn, 1) := by decide +kernel
theorem dX6_law_17 : decode cX6_law 17 = .ok (.aload_n 0, 1) := by decide +kernel
theorem dX6_law_18 : decode cX6_law 18 = .ok (.getfield 21, 3) := by decide +kernel
theorem dX6_law_21 : decode cX6_law 21 = .ok (.iload_n 1, 1) := by decide +kernel
theorem dX6_law_22 : decode cX6_law 22 = .ok (.invokevirtual 86, 3) := by decide +kernel
theorem dX6_law_25 : decode cX6_law 25 = .ok (.istore_n 2, 1) := by decide +kernel
theorem dX6_law_26 : decode cX6_law 26 = .ok (.aload_n 0, 1) := by decide +kernel
theorem dX6_law_27 : decode cX6_law 27 = .ok (.getfield 10, 3) := by decide +kernel
theorem dX6_law_30 : decode cX6_law 30 = .ok (.invokevirtual 90, 3) := by decide +kernel
theorem dX6_law_33 : decode cX6_law 33 = .ok (.iload_n 2, 1) := by decide +kernel
theorem dX6_law_34 : decode cX6_law 34 = .ok (.ireturn, 1) := by decide +kernel
set_option maxRecDepth 20000 in
theorem ggX6_trough_X6_within : GoodIn wsX6_trough wsX6_within := goodIn_r _ [5] (by decide +kernel) (by decide +kernel)
set_option maxRecDepth 20000 in
theorem gX6_trough_X6_within : GoodIn wsX6_trough (va_wsS RX6 82 yX6_within wsX6_within) := goodIn_app (goodIn_of _ (by decide +kernel)) ggX6_trough_X6_within
theorem dX6_trough_0 : decode cX6_trough 0 = .ok (.iload_n 1, 1) := by decide +kernel
theorem dX6_trough_1 : decode cX6_trough 1 = .ok (.bipush 10, 2) := by decide +kernel
theorem dX6_trough_3 : decode cX6_trough 3 = .ok (.sipush 200, 3) := by decide +kernel
theorem dX6_trough_6 : decode cX6_trough 6 = .ok (.invokestatic 82, 3) := by decide +kernel
theorem dX6_trough_9 : decode cX6_trough 9 = .ok (.ifCond .ne 5, 3) := by decide +kernel
theorem dX6_trough_12 : decode cX6_trough 12 = .ok (.iconst 0, 1) := by decide +kernel
theorem dX6_trough_13 : decode cX6_trough 13 = .ok (.ireturn, 1) := by decide +kernel
theorem dX6_trough_14 : decode cX6_trough 14 = .ok (.aload_n 0, 1) := by decide +kernel
theorem dX6_trough_15 : decode cX6_trough 15 = .ok (.iload_n 1, 1) := by decide +kernel
theorem dX6_trough_16 : decode cX6_trough 16 = .ok (.putfield 63, 3) := by decide +kernel
theorem dX6_trough_19 : decode cX6_trough 19 = .ok (.iconst 1, 1) := by decide +kernel
theorem dX6_trough_20 : decode cX6_trough 20 = .ok (.ireturn, 1) := by decide +kernel
set_option maxRecDepth 20000 in
theorem ggX6_area_X6_isSide : GoodIn wsX6_area wsX6_isSide := goodIn_r _ [4] (by decide +kernel) (by decide +kernel)
set_option maxRecDepth 20000 in
theorem gX6_area_X6_isSide : GoodIn wsX6_area (va_wsS RX6 93 yX6_isSide wsX6_isSide) := goodIn_app (goodIn_of _ (by decide +kernel)) ggX6_area_X6_isSide
set_option maxRecDepth 20000 in
theorem ggX6_area_X6_within : GoodIn wsX6_area wsX6_within := goodIn_r _ [7] (by decide +kernel) (by decide +kernel)
set_option maxRecDepth 20000 in
theorem gX6_area_X6_within : GoodIn wsX6_area (va_wsS RX6 82 yX6_within wsX6_within) := goodIn_app (goodIn_of _ (by decide +kernel)) ggX6_area_X6_within
set_option maxRecDepth 20000 in
theorem ggX6_area_X6_waterAt : GoodIn wsX6_area wsX6_waterAt := goodIn_r _ [11, 12, 13, 20, 21, 22, 23, 24, 25, 26, 27, 28, 29, 30, 31, 32, 33, 34] (by decide +kernel) (by decide +kernel)
set_option maxRecDepth 20000 in
theorem gX6_area_X6_waterAt : GoodIn wsX6_area (wsV RX6 97 RX6 yX6_waterAt wsX6_waterAt) := goodIn_app (goodIn_of _ (by decide +kernel)) ggX6_area_X6_waterAt
set_option maxRecDepth 20000 in
theorem ggX6_area_X5_spreadOver : GoodIn wsX6_area wsX5_spreadOver := goodIn_r _ [18, 19, 35, 36] (by decide +kernel) (by decide +kernel)
set_option maxRecDepth 20000 in
theorem gX6_area_X5_spreadOver : GoodIn wsX6_area (wsV RX6 101 RX5 yX5_spreadOver wsX5_spreadOver) := goodIn_app (goodIn_of _ (by decide +kernel)) ggX6_area_X5_spreadOver
theorem dX6_area_0 : decode cX6_area 0 = .ok (.iload_n 1, 1) := by decide +kernel
theorem dX6_area_1 : decode cX6_area 1 = .ok (.invokestatic 93, 3) := by decide +kernel
theorem dX6_area_4 : decode cX6_area 4 = .ok (.ifCond .eq 14, 3) := by decide +kernel
theorem dX6_area_7 : decode cX6_area 7 = .ok (.iload_n 2, 1) := by decide +kernel
theorem dX6_area_8 : decode cX6_area 8 = .ok (.iconst 1, 1) := by decide +kernel
theorem dX6_area_9 : decode cX6_area 9 = .ok (.sipush 10000, 3) := by decide +kernel
theorem dX6_area_12 : decode cX6_area 12 = .ok (.invokestatic 82, 3) := by decide +kernel
theorem dX6_area_15 : decode cX6_area 15 = .ok (.ifCond .ne 5, 3) := by decide +kernel
theorem dX6_area_18 : decode cX6_area 18 = .ok (.iconst 0, 1) := by decide +kernel
theorem dX6_area_19 : decode cX6_area 19 = .ok (.ireturn, 1) := by decide +kernel
theorem dX6_area_20 : decode cX6_area 20 = .ok (.aload_n 0, 1) := by decide +kernel
theorem dX6_area_21 : decode cX6_area 21 = .ok (.iload_n 1, 1) := by decide +kernel
theorem dX6_area_22 : decode cX6_area 22 = .ok (.invokevirtual 97, 3) := by decide +kernel
theorem dX6_area_25 : decode cX6_area 25 = .ok (.iload_n 2, 1) := by decide +kernel
theorem dX6_area_26 : decode cX6_area 26 = .ok (.invokevirtual 101, 3) := by decide +kernel
theorem dX6_area_29 : decode cX6_area 29 = .ok (.iconst 1, 1) := by decide +kernel
theorem dX6_area_30 : decode cX6_area 30 = .ok (.ireturn, 1) := by decide +kernel
set_option maxRecDepth 20000 in
theorem ggX6_flow_X6_isSide : GoodIn wsX6_flow wsX6_isSide := goodIn_r _ [6] (by decide +kernel) (by decide +kernel)
set_option maxRecDepth 20000 in
theorem gX6_flow_X6_isSide : GoodIn wsX6_flow (va_wsS RX6 93 yX6_isSide wsX6_isSide) := goodIn_app (goodIn_of _ (by decide +kernel)) ggX6_flow_X6_isSide
set_option maxRecDepth 20000 in
theorem ggX6_flow_X6_within : GoodIn wsX6_flow wsX6_within := goodIn_r _ [9] (by decide +kernel) (by decide +kernel)
set_option maxRecDepth 20000 in
theorem gX6_flow_X6_within : GoodIn wsX6_flow (va_wsS RX6 82 yX6_within wsX6_within) := goodIn_app (goodIn_of _ (by decide +kernel)) ggX6_flow_X6_within
set_option maxRecDepth 20000 in
theorem ggX6_flow_X6_waterAt : GoodIn wsX6_flow wsX6_waterAt := goodIn_r _ [13, 14, 15, 22, 23, 24, 25, 26, 27, 28, 29, 30, 31, 32, 33, 34, 35, 36] (by decide +kernel) (by decide +kernel)
set_option maxRecDepth 20000 in
theorem gX6_flow_X6_waterAt : GoodIn wsX6_flow (wsV RX6 97 RX6 yX6_waterAt wsX6_waterAt) := goodIn_app (goodIn_of _ (by decide +kernel)) ggX6_flow_X6_waterAt
set_option maxRecDepth 20000 in
theorem ggX6_flow_X5_gain : GoodIn wsX6_flow wsX5_gain := goodIn_r _ [20, 21, 37, 38] (by decide +kernel) (by decide +kernel)
set_option maxRecDepth 20000 in
theorem gX6_flow_X5_gain : GoodIn wsX6_flow (wsV RX6 106 RX5 yX5_gain wsX5_gain) := goodIn_app (goodIn_of _ (by decide +kernel)) ggX6_flow_X5_gain
theorem dX6_flow_0 : decode cX6_flow 0 = .ok (.iload_n 1, 1) := by decide +kernel
theorem dX6_flow_1 : decode cX6_flow 1 = .ok (.invokestatic 93, 3) := by decide +kernel
theorem dX6_flow_4 : decode cX6_flow 4 = .ok (.ifCond .eq 14, 3) := by decide +kernel
theorem dX6_flow_7 : decode cX6_flow 7 = .ok (.iload_n 2, 1) := by decide +kernel
theorem dX6_flow_8 : decode cX6_flow 8 = .ok (.ldc 104, 2) := by decide +kernel
theorem dX6_flow_10 : decode cX6_flow 10 = .ok (.ldc 105, 2) := by decide +kernel
theorem dX6_flow_12 : decode cX6_flow 12 = .ok (.invokestatic 82, 3) := by decide +kernel
theorem dX6_flow_15 : decode cX6_flow 15 = .ok (.ifCond .ne 5, 3) := by decide +kernel
theorem dX6_flow_18 : decode cX6_flow 18 = .ok (.iconst 0, 1) := by decide +kernel
theorem dX6_flow_19 : decode cX6_flow 19 = .ok (.ireturn, 1) := by decide +kernel
theorem dX6_flow_20 : decode cX6_flow 20 = .ok (.aload_n 0, 1) := by decide +kernel
theorem dX6_flow_21 : decode cX6_flow 21 = .ok (.iload_n 1, 1) := by decide +kernel
theorem dX6_flow_22 : decode cX6_flow 22 = .ok (.invokevirtual 97, 3) := by decide +kernel
theorem dX6_flow_25 : decode cX6_flow 25 = .ok (.iload_n 2, 1) := by decide +kernel
theorem dX6_flow_26 : decode cX6_flow 26 = .ok (.invokevirtual 106, 3) := by decide +kernel
theorem dX6_flow_29 : decode cX6_flow 29 = .ok (.iconst 1, 1) := by decide +kernel
theorem dX6_flow_30 : decode cX6_flow 30 = .ok (.ireturn, 1) := by decide +kernel
set_option maxRecDepth 20000 in
theorem ggX6_ice_X6_isMinute : GoodIn wsX6_ice wsX6_isMinute := goodIn_r _ [5, 6, 7, 4, 8] (by decide +kernel) (by decide +kernel)
set_option maxRecDepth 20000 in
theorem gX6_ice_X6_isMinute : GoodIn wsX6_ice (va_wsS RX6 109 yX6_isMinute wsX6_isMinute) := goodIn_app (goodIn_of _ (by decide +kernel)) ggX6_ice_X6_isMinute
set_option maxRecDepth 20000 in
theorem ggX6_ice_X4_addIce : GoodIn wsX6_ice wsX4_addIce := goodIn_r _ [13, 14, 15, 16, 32, 33, 34, 35] (by decide +kernel) (by decide +kernel)
set_option maxRecDepth 20000 in
theorem gX6_ice_X4_addIce : GoodIn wsX6_ice (wsV RX6 112 RX4 yX4_addIce wsX4_addIce) := goodIn_app (goodIn_of _ (by decide +kernel)) ggX6_ice_X4_addIce
theorem dX6_ice_0 : decode cX6_ice 0 = .ok (.iload_n 1, 1) := by decide +kernel
theorem dX6_ice_1 : decode cX6_ice 1 = .ok (.invokestatic 109, 3) := by decide +kernel
theorem dX6_ice_4 : decode cX6_ice 4 = .ok (.ifCond .eq 15, 3) := by decide +kernel
theorem dX6_ice_7 : decode cX6_ice 7 = .ok (.iload_n 2, 1) := by decide +kernel
theorem dX6_ice_8 : decode cX6_ice 8 = .ok (.invokestatic 109, 3) := by decide +kernel
theorem dX6_ice_11 : decode cX6_ice 11 = .ok (.ifCond .eq 8, 3) := by decide +kernel
theorem dX6_ice_14 : decode cX6_ice 14 = .ok (.iload_n 1, 1) := by decide +kernel
theorem dX6_ice_15 : decode cX6_ice 15 = .ok (.iload_n 2, 1) := by decide +kernel
theorem dX6_ice_16 : decode cX6_ice 16 = .ok (.if_icmp .lt 5, 3) := by decide +kernel
theorem dX6_ice_19 : decode cX6_ice 19 = .ok (.iconst 0, 1) := by decide +kernel
theorem dX6_ice_20 : decode cX6_ice 20 = .ok (.ireturn, 1) := by decide +kernel
theorem dX6_ice_21 : decode cX6_ice 21 = .ok (.aload_n 0, 1) := by decide +kernel
theorem dX6_ice_22 : decode cX6_ice 22 = .ok (.getfield 30, 3) := by decide +kernel
theorem dX6_ice_25 : decode cX6_ice 25 = .ok (.iload_n 1, 1) := by decide +kernel
theorem dX6_ice_26 : decode cX6_ice 26 = .ok (.iload_n 2, 1) := by decide +kernel
theorem dX6_ice_27 : decode cX6_ice 27 = .ok (.invokevirtual 112, 3) := by decide +kernel
theorem dX6_ice_30 : decode cX6_ice 30 = .ok (.ireturn, 1) := by decide +kernel
set_option maxRecDepth 20000 in
theorem ggX6_boat_X6_isSide : GoodIn wsX6_boat wsX6_isSide := goodIn_r _ [10] (by decide +kernel) (by decide +kernel)
set_option maxRecDepth 20000 in
theorem gX6_boat_X6_isSide : GoodIn wsX6_boat (va_wsS RX6 93 yX6_isSide wsX6_isSide) := goodIn_app (goodIn_of _ (by decide +kernel)) ggX6_boat_X6_isSide
set_option maxRecDepth 20000 in
theorem ggX6_boat_X6_isMinute : GoodIn wsX6_boat wsX6_isMinute := goodIn_r _ [13, 14, 15, 9, 16] (by decide +kernel) (by decide +kernel)
set_option maxRecDepth 20000 in
theorem gX6_boat_X6_isMinute : GoodIn wsX6_boat (va_wsS RX6 109 yX6_isMinute wsX6_isMinute) := goodIn_app (goodIn_of _ (by decide +kernel)) ggX6_boat_X6_isMinute
set_option maxRecDepth 20000 in
theorem ggX6_boat_X6_within : GoodIn wsX6_boat wsX6_within := goodIn_r _ [16] (by decide +kernel) (by decide +kernel)
set_option maxRecDepth 20000 in
theorem gX6_boat_X6_within : GoodIn wsX6_boat (va_wsS RX6 82 yX6_within wsX6_within) := goodIn_app (goodIn_of _ (by decide +kernel)) ggX6_boat_X6_within
set_option maxRecDepth 20000 in
theorem ggX6_boat_Jx4a65c_size_8abf5 : GoodIn wsX6_boat wsJx4a65c_size_8abf5 := goodIn_r _ [21, 22, 148, 149, 150] (by decide +kernel) (by decide +kernel)
set_option maxRecDepth 20000 in
theorem gX6_boat_Jx4a65c_size_8abf5_f116Jx4a65c : GoodIn wsX6_boat (va_wsF RX6 116 RJx4a65c ⟨"java/util/List", "size", "()I"⟩ yJx4a65c_size_8abf5 wsJx4a65c_size_8abf5) := goodIn_app (goodIn_of _ (by decide +kernel)) ggX6_boat_Jx4a65c_size_8abf5
set_option maxRecDepth 20000 in
theorem ggX6_boat_X0_init : GoodIn wsX6_boat wsX0_init := goodIn_r _ [25, 26, 27, 28, 29, 30, 31, 32, 33, 34, 35, 36, 140, 141, 142, 143, 144, 145, 146, 147] (by decide +kernel) (by decide +kernel)
set_option maxRecDepth 20000 in
theorem gX6_boat_X0_init : GoodIn wsX6_boat (wsX0_init) := ggX6_boat_X0_init
set_option maxRecDepth 20000 in
theorem ggX6_boat_Jx4a65c_add_9ea2d : GoodIn wsX6_boat wsJx4a65c_add_9ea2d := goodIn_r _ [40, 41, 42, 43, 22, 44, 45, 46, 20, 47, 48, 49, 50, 51, 52, 53, 54, 55, 56, 57, 58, 59, 60, 61, 62, 63, 64, 65, 66, 67, 68, 69, 70, 71, 72, 73, 74, 75, 76, 77, 78, 79, 80, 81, 82, 83, 84, 85, 86, 87, 88, 89, 90, 148, 149, 150] (by decide +kernel) (by decide +kernel)
set_option maxRecDepth 20000 in
theorem gX6_boat_Jx4a65c_add_9ea2d_f124Jx4a65c : GoodIn wsX6_boat (va_wsF RX6 124 RJx4a65c ⟨"java/util/List", "add", "(Ljava/lang/Object;)Z"⟩ yJx4a65c_add_9ea2d wsJx4a65c_add_9ea2d) := goodIn_app (goodIn_of _ (by decide +kernel)) ggX6_boat_Jx4a65c_add_9ea2d
set_option maxRecDepth 20000 in
theorem ggX6_boat_X6_turnOf : GoodIn wsX6_boat wsX6_turnOf := goodIn_r _ [94, 5, 95, 17, 18, 19, 20, 21, 22, 96, 97, 98, 99, 100, 101, 102, 103, 104, 105, 106, 107, 108, 109, 110, 111, 43, 112, 113, 114, 4, 115, 36, 32, 125, 126, 127, 128, 129, 130, 131, 132, 133, 134, 135, 136, 137, 138, 139, 148, 149, 150, 140, 141, 142, 143, 144, 145, 146, 147] (by decide +kernel) (by decide +kernel)
set_option maxRecDepth 20000 in
theorem gX6_boat_X6_turnOf : GoodIn wsX6_boat (wsV RX6 128 RX6 yX6_turnOf wsX6_turnOf) := goodIn_app (goodIn_of _ (by decide +kernel)) ggX6_boat_X6_turnOf
set_option maxRecDepth 20000 in
theorem ggX6_boat_Jx4a65c_add_7a177 : GoodIn wsX6_boat wsJx4a65c_add_7a177 := goodIn_r _ [119, 41, 42, 22, 43, 120, 88, 89, 90, 121, 122, 123, 20, 124, 48, 49, 50, 51, 52, 53, 54, 55, 56, 57, 58, 59, 60, 61, 62, 63, 64, 65, 66, 67, 68, 69, 70, 71, 72, 73, 74, 75, 76, 77, 78, 79, 80, 81, 82, 83, 84, 85, 86, 87, 148, 149, 150] (by decide +kernel) (by decide +kernel)
set_option maxRecDepth 20000 in
theorem gX6_boat_Jx4a65c_add_7a177_f132Jx4a65c : GoodIn wsX6_boat (va_wsF RX6 132 RJx4a65c ⟨"java/util/List", "add", "(ILjava/lang/Object;)V"⟩ yJx4a65c_add_7a177 wsJx4a65c_add_7a177) := goodIn_app (goodIn_of _ (by decide +kernel)) ggX6_boat_Jx4a65c_add_7a177
theorem dX6_boat_0 : decode cX6_boat 0 = .ok (.iload_n 1, 1) := by decide +kernel
theorem dX6_boat_1 : decode cX6_boat 1 = .ok (.invokestatic 93, 3) := by decide +kernel
theorem dX6_boat_4 : decode cX6_boat 4 = .ok (.ifCond .eq 20, 3) := by decide +kernel
theorem dX6_boat_7 : decode cX6_boat 7 = .ok (.iload_n 2, 1) := by decide +kernel
theorem dX6_boat_8 : decode cX6_boat 8 = .ok (.invokestatic 109, 3) := by decide +kernel
theorem dX6_boat_11 : decode cX6_boat 11 = .ok (.ifCond .eq 13, 3) := by decide +kernel
theorem dX6_boat_14 : decode cX6_boat 14 = .ok (.iload_n 3, 1) := by decide +kernel
theorem dX6_boat_15 : decode cX6_boat 15 = .ok (.iconst 1, 1) := by decide +kernel
theorem dX6_boat_16 : decode cX6_boat 16 = .ok (.bipush 100, 2) := by decide +kernel
theorem dX6_boat_18 : decode cX6_boat 18 = .ok (.invokestatic 82, 3) := by decide +kernel
theorem dX6_boat_21 : decode cX6_boat 21 = .ok (.ifCond .ne 5, 3) := by decide +kernel
theorem dX6_boat_24 : decode cX6_boat 24 = .ok (.iconst (-1), 1) := by decide +kernel
theorem dX6_boat_25 : decode cX6_boat 25 = .ok (.ireturn, 1) := by decide +kernel
theorem dX6_boat_26 : decode cX6_boat 26 = .ok (.iload 4, 2) := by decide +kernel
theorem dX6_boat_28 : decode cX6_boat 28 = .ok (.iconst 1, 1) := by decide +kernel
theorem dX6_boat_29 : decode cX6_boat 29 = .ok (.bipush 40, 2) := by decide +kernel
theorem dX6_boat_31 : decode cX6_boat 31 = .ok (.invokestatic 82, 3) := by decide +kernel
theorem dX6_boat_34 : decode cX6_boat 34 = .ok (.ifCond .eq 25, 3) := by decide +kernel
theorem dX6_boat_37 : decode cX6_boat 37 = .ok (.iload 5, 2) := by decide +kernel
theorem dX6_boat_39 : decode cX6_boat 39 = .ok (.iconst 1, 1) := by decide +kernel
theorem dX6_boat_40 : decode cX6_boat 40 = .ok (.sipush 2000, 3) := by decide +kernel
theorem dX6_boat_43 : decode cX6_boat 43 = .ok (.invokestatic 82, 3) := by decide +kernel
theorem dX6_boat_46 : decode cX6_boat 46 = .ok (.ifCond .eq 13, 3) := by decide +kernel
theorem dX6_boat_49 : decode cX6_boat 49 = .ok (.iload 6, 2) := by decide +kernel
theorem dX6_boat_51 : decode cX6_boat 51 = .ok (.iconst 0, 1) := by decide +kernel
theorem dX6_boat_52 : decode cX6_boat 52 = .ok (.iconst 3, 1) := by decide +kernel
theorem dX6_boat_53 : decode cX6_boat 53 = .ok (.invokestatic 82, 3) := by decide +kernel
theorem dX6_boat_56 : decode cX6_boat 56 = .ok (.ifCond .ne 5, 3) := by decide +kernel
theorem dX6_boat_59 : decode cX6_boat 59 = .ok (.iconst (-1), 1) := by decide +kernel
theorem dX6_boat_60 : decode cX6_boat 60 = .ok (.ireturn, 1) := by decide +kernel
theorem dX6_boat_61 : decode cX6_boat 61 = .ok (.aload_n 0, 1) := by decide +kernel
theorem dX6_boat_62 : decode cX6_boat 62 = .ok (.getfield 56, 3) := by decide +kernel
theorem dX6_boat_65 : decode cX6_boat 65 = .ok (.invokeinterface 116 1, 5) := by decide +kernel
theorem dX6_boat_70 : decode cX6_boat 70 = .ok (.bipush 16, 2) := by decide +kernel
theorem dX6_boat_72 : decode cX6_boat 72 = .ok (.if_icmp .lt 5, 3) := by decide +kernel
theorem dX6_boat_75 : decode cX6_boat 75 = .ok (.iconst (-1), 1) := by decide +kernel
theorem dX6_boat_76 : decode cX6_boat 76 = .ok (.ireturn, 1) := by decide +kernel
theorem dX6_boat_77 : decode cX6_boat 77 = .ok (.new 119, 3) := by decide +kernel
theorem dX6_boat_80 : decode cX6_boat 80 = .ok (.dup, 1) := by decide +kernel
theorem dX6_boat_81 : decode cX6_boat 81 = .ok (.aload_n 0, 1) := by decide +kernel
theorem dX6_boat_82 : decode cX6_boat 82 = .ok (.getfield 56, 3) := by decide +kernel
theorem dX6_boat_85 : decode cX6_boat 85 = .ok (.invokeinterface 116 1, 5) := by decide +kernel
theorem dX6_boat_90 : decode cX6_boat 90 = .ok (.iload_n 1, 1) := by decide +kernel
theorem dX6_boat_91 : decode cX6_boat 91 = .ok (.iload_n 2, 1) := by decide +kernel
theorem dX6_boat_92 : decode cX6_boat 92 = .ok (.iload_n 3, 1) := by decide +kernel
theorem dX6_boat_93 : decode cX6_boat 93 = .ok (.iload 4, 2) := by decide +kernel
theorem dX6_boat_95 : decode cX6_boat 95 = .ok (.iload 5, 2) := by decide +kernel
theorem dX6_boat_97 : decode cX6_boat 97 = .ok (.iload 6, 2) := by decide +kernel
theorem dX6_boat_99 : decode cX6_boat 99 = .ok (.invokespecial 121, 3) := by decide +kernel
theorem dX6_boat_102 : decode cX6_boat 102 = .ok (.astore 7, 2) := by decide +kernel
theorem dX6_boat_104 : decode cX6_boat 104 = .ok (.aload_n 0, 1) := by decide +kernel
theorem dX6_boat_105 : decode cX6_boat 105 = .ok (.getfield 56, 3) := by decide +kernel
theorem dX6_boat_108 : decode cX6_boat 108 = .ok (.aload 7, 2) := by decide +kernel
theorem dX6_boat_110 : decode cX6_boat 110 = .ok (.invokeinterface 124 2, 5) := by decide +kernel
theorem dX6_boat_115 : decode cX6_boat 115 = .ok (.pop, 1) := by decide +kernel
theorem dX6_boat_116 : decode cX6_boat 116 = .ok (.aload_n 0, 1) := by decide +kernel
theorem dX6_boat_117 : decode cX6_boat 117 = .ok (.getfield 60, 3) := by decide +kernel
theorem dX6_boat_120 : decode cX6_boat 120 = .ok (.aload_n 0, 1) := by decide +kernel
theorem dX6_boat_121 : decode cX6_boat 121 = .ok (.aload 7, 2) := by decide +kernel
theorem dX6_boat_123 : decode cX6_boat 123 = .ok (.invokevirtual 128, 3) := by decide +kernel
theorem dX6_boat_126 : decode cX6_boat 126 = .ok (.aload 7, 2) := by decide +kernel
theorem dX6_boat_128 : decode cX6_boat 128 = .ok (.invokeinterface 132 3, 5) := by decide +kernel
theorem dX6_boat_133 : decode cX6_boat 133 = .ok (.aload 7, 2) := by decide +kernel
theorem dX6_boat_135 : decode cX6_boat 135 = .ok (.getfield 135, 3) := by decide +kernel
theorem dX6_boat_138 : decode cX6_boat 138 = .ok (.ireturn, 1) := by decide +kernel
set_option maxRecDepth 20000 in
theorem ggX6_queue_X6_isSide : GoodIn wsX6_queue wsX6_isSide := goodIn_r _ [7] (by decide +kernel) (by decide +kernel)
set_option maxRecDepth 20000 in
theorem gX6_queue_X6_isSide : GoodIn wsX6_queue (va_wsS RX6 93 yX6_isSide wsX6_isSide) := goodIn_app (goodIn_of _ (by decide +kernel)) ggX6_queue_X6_isSide
set_option maxRecDepth 20000 in
theorem ggX6_queue_X6_isMinute : GoodIn wsX6_queue wsX6_isMinute := goodIn_r _ [10, 11, 12, 6, 13] (by decide +kernel) (by decide +kernel)
set_option maxRecDepth 20000 in
theorem gX6_queue_X6_isMinute : GoodIn wsX6_queue (va_wsS RX6 109 yX6_isMinute wsX6_isMinute) := goodIn_app (goodIn_of _ (by decide +kernel)) ggX6_queue_X6_isMinute
set_option maxRecDepth 20000 in
theorem ggX6_queue_Jx4a65c_size_8abf5 : GoodIn wsX6_queue wsJx4a65c_size_8abf5 := goodIn_r _ [18, 19, 105, 106, 107] (by decide +kernel) (by decide +kernel)
set_option maxRecDepth 20000 in
theorem gX6_queue_Jx4a65c_size_8abf5_f116Jx4a65c : GoodIn wsX6_queue (va_wsF RX6 116 RJx4a65c ⟨"java/util/List", "size", "()I"⟩ yJx4a65c_size_8abf5 wsJx4a65c_size_8abf5) := goodIn_app (goodIn_of _ (by decide +kernel)) ggX6_queue_Jx4a65c_size_8abf5
set_option maxRecDepth 20000 in
theorem ggX6_queue_Jx4a65c_get_915e3 : GoodIn wsX6_queue wsJx4a65c_get_915e3 := goodIn_r _ [23, 19, 24, 25, 26, 27, 28, 29, 30, 31, 32, 33, 34, 17, 35, 36, 105, 106, 107] (by decide +kernel) (by decide +kernel)
set_option maxRecDepth 20000 in
theorem gX6_queue_Jx4a65c_get_915e3_f138Jx4a65c : GoodIn wsX6_queue (va_wsF RX6 138 RJx4a65c ⟨"java/util/List", "get", "(I)Ljava/lang/Object;"⟩ yJx4a65c_get_915e3 wsJx4a65c_get_915e3) := goodIn_app (goodIn_of _ (by decide +kernel)) ggX6_queue_Jx4a65c_get_915e3
set_option maxRecDepth 20000 in
theorem ggX6_queue_X6_isQueued : GoodIn wsX6_queue wsX6_isQueued := goodIn_r _ [40, 41, 42, 43, 44, 45, 6, 46, 47, 48, 49, 50, 51, 52, 53, 54, 55, 56, 57, 58, 59, 60, 61, 62, 63, 64, 65, 66, 67, 68, 69, 70, 71, 72, 73, 74, 75, 76, 77, 78, 79, 80, 81, 97, 98, 99, 100, 101, 102, 103, 104, 82, 83, 84, 85, 86, 87, 88, 89, 90, 91, 92, 93, 94, 95, 96, 108, 109, 110, 111, 112, 113, 114] (by decide +kernel) (by decide +kernel)
set_option maxRecDepth 20000 in
theorem gX6_queue_X6_isQueued : GoodIn wsX6_queue (wsV RX6 142 RX6 yX6_isQueued wsX6_isQueued) := goodIn_app (goodIn_of _ (by decide +kernel)) ggX6_queue_X6_isQueued
theorem dX6_queue_0 : decode cX6_queue 0 = .ok (.iload_n 1, 1) := by decide +kernel
theorem dX6_queue_1 : decode cX6_queue 1 = .ok (.invokestatic 93, 3) := by decide +kernel
theorem dX6_queue_4 : decode cX6_queue 4 = .ok (.ifCond .eq 14, 3) := by decide +kernel
theorem dX6_queue_7 : decode cX6_queue 7 = .ok (.iload_n 2, 1) := by decide +kernel
theorem dX6_queue_8 : decode cX6_queue 8 = .ok (.invokestatic 109, 3) := by decide +kernel
theorem dX6_queue_11 : decode cX6_queue 11 = .ok (.ifCond .eq 7, 3) := by decide +kernel
theorem dX6_queue_14 : decode cX6_queue 14 = .ok (.iload_n 3, 1) := by decide +kernel
theorem dX6_queue_15 : decode cX6_queue 15 = .ok (.ifCond .ge 5, 3) := by decide +kernel
theorem dX6_queue_18 : decode cX6_queue 18 = .ok (.iconst (-1), 1) := by decide +kernel
theorem dX6_queue_19 : decode cX6_queue 19 = .ok (.ireturn, 1) := by decide +kernel
theorem dX6_queue_20 : decode cX6_queue 20 = .ok (.iconst 0, 1) := by decide +kernel
theorem dX6_queue_21 : decode cX6_queue 21 = .ok (.istore 4, 2) := by decide +kernel
theorem dX6_queue_23 : decode cX6_queue 23 = .ok (.iconst 0, 1) := by decide +kernel
theorem dX6_queue_24 : decode cX6_queue 24 = .ok (.istore 5, 2) := by decide +kernel
theorem dX6_queue_26 : decode cX6_queue 26 = .ok (.iload 5, 2) := by decide +kernel
theorem dX6_queue_28 : decode cX6_queue 28 = .ok (.aload_n 0, 1) := by decide +kernel
theorem dX6_queue_29 : decode cX6_queue 29 = .ok (.getfield 60, 3) := by decide +kernel
theorem dX6_queue_32 : decode cX6_queue 32 = .ok (.invokeinterface 116 1, 5) := by decide +kernel
theorem dX6_queue_37 : decode cX6_queue 37 = .ok (.if_icmp .ge 51, 3) := by decide +kernel
theorem dX6_queue_40 : decode cX6_queue 40 = .ok (.aload_n 0, 1) := by decide +kernel
theorem dX6_queue_41 : decode cX6_queue 41 = .ok (.getfield 60, 3) := by decide +kernel
theorem dX6_queue_44 : decode cX6_queue 44 = .ok (.iload 5, 2) := by decide +kernel
theorem dX6_queue_46 : decode cX6_queue 46 = .ok (.invokeinterface 138 2, 5) := by decide +kernel
theorem dX6_queue_51 : decode cX6_queue 51 = .ok (.checkcast 119, 3) := by decide +kernel
theorem dX6_queue_54 : decode cX6_queue 54 = .ok (.astore 6, 2) := by decide +kernel
theorem dX6_queue_56 : decode cX6_queue 56 = .ok (.aload_n 0, 1) := by decide +kernel
theorem dX6_queue_57 : decode cX6_queue 57 = .ok (.aload 6, 2) := by decide +kernel
theorem dX6_queue_59 : decode cX6_queue 59 = .ok (.iload_n 1, 1) := by decide +kernel
theorem dX6_queue_60 : decode cX6_queue 60 = .ok (.iload_n 2, 1) := by decide +kernel
theorem dX6_queue_61 : decode cX6_queue 61 = .ok (.invokevirtual 142, 3) := by decide +kernel
theorem dX6_queue_64 : decode cX6_queue 64 = .ok (.ifCond .eq 18, 3) := by decide +kernel
theorem dX6_queue_67 : decode cX6_queue 67 = .ok (.iload 4, 2) := by decide +kernel
theorem dX6_queue_69 : decode cX6_queue 69 = .ok (.iload_n 3, 1) := by decide +kernel
theorem dX6_queue_70 : decode cX6_queue 70 = .ok (.if_icmp .ne 9, 3) := by decide +kernel
theorem dX6_queue_73 : decode cX6_queue 73 = .ok (.aload 6, 2) := by decide +kernel
theorem dX6_queue_75 : decode cX6_queue 75 = .ok (.getfield 135, 3) := by decide +kernel
theorem dX6_queue_78 : decode cX6_queue 78 = .ok (.ireturn, 1) := by decide +kernel
theorem dX6_queue_79 : decode cX6_queue 79 = .ok (.iinc 4 1, 3) := by decide +kernel
theorem dX6_queue_82 : decode cX6_queue 82 = .ok (.iinc 5 1, 3) := by decide +kernel
theorem dX6_queue_85 : decode cX6_queue 85 = .ok (.goto (-59), 3) := by decide +kernel
theorem dX6_queue_88 : decode cX6_queue 88 = .ok (.iconst (-1), 1) := by decide +kernel
theorem dX6_queue_89 : decode cX6_queue 89 = .ok (.ireturn, 1) := by decide +kernel
set_option maxRecDepth 20000 in
theorem ggX6_fitting_X6_isMinute : GoodIn wsX6_fitting wsX6_isMinute := goodIn_r _ [4, 5, 6, 3, 7] (by decide +kernel) (by decide +kernel)
set_option maxRecDepth 20000 in
theorem gX6_fitting_X6_isMinute : GoodIn wsX6_fitting (va_wsS RX6 109 yX6_isMinute wsX6_isMinute) := goodIn_app (goodIn_of _ (by decide +kernel)) ggX6_fitting_X6_isMinute
set_option maxRecDepth 20000 in
theorem ggX6_fitting_X6_fittingAt : GoodIn wsX6_fitting wsX6_fittingAt := goodIn_r _ [11, 12, 13, 14, 15, 16, 17, 18, 19, 20, 21, 22, 23, 24, 25, 26, 27, 28, 29, 30, 31, 32, 33, 34, 35, 36, 37, 38, 39, 40, 41, 42, 3, 43, 44, 45, 46, 47, 48, 49, 50, 51, 52, 53, 54, 55, 56, 57, 58, 59, 60, 61, 62, 63, 64, 65, 66, 67, 68, 69, 70, 71, 72, 73, 74, 75, 76, 77, 78, 79, 80, 81, 82, 83, 84, 85, 86, 87, 88, 89, 90, 91, 92, 93, 94, 95, 96, 97, 98, 99, 100, 101, 102, 103, 104, 105, 106, 107, 108, 109, 110, 111, 112, 113, 114, 115] (by decide +kernel) (by decide +kernel)
set_option maxRecDepth 20000 in
theorem gX6_fitting_X6_fittingAt : GoodIn wsX6_fitting (wsV RX6 146 RX6 yX6_fittingAt wsX6_fittingAt) := goodIn_app (goodIn_of _ (by decide +kernel)) ggX6_fitting_X6_fittingAt
theorem dX6_fitting_0 : decode cX6_fitting 0 = .ok (.iload_n 1, 1) := by decide +kernel
theorem dX6_fitting_1 : decode cX6_fitting 1 = .ok (.invokestatic 109, 3) := by decide +kernel
theorem dX6_fitting_4 : decode cX6_fitting 4 = .ok (.ifCond .eq 11, 3) := by decide +kernel
theorem dX6_fitting_7 : decode cX6_fitting 7 = .ok (.aload_n 0, 1) := by decide +kernel
theorem dX6_fitting_8 : decode cX6_fitting 8 = .ok (.iload_n 1, 1) := by decide +kernel
theorem dX6_fitting_9 : decode cX6_fitting 9 = .ok (.invokevirtual 146, 3) := by decide +kernel
theorem dX6_fitting_12 : decode cX6_fitting 12 = .ok (.goto 4, 3) := by decide +kernel
theorem dX6_fitting_15 : decode cX6_fitting 15 = .ok (.iconst (-1), 1) := by decide +kernel
theorem dX6_fitting_16 : decode cX6_fitting 16 = .ok (.ireturn, 1) := by decide +kernel
set_option maxRecDepth 20000 in
theorem ggX6_ride_X6_isMinute : GoodIn wsX6_ride wsX6_isMinute := goodIn_r _ [10, 11, 12, 9, 13] (by decide +kernel) (by decide +kernel)
set_option maxRecDepth 20000 in
theorem gX6_ride_X6_isMinute : GoodIn wsX6_ride (va_wsS RX6 109 yX6_isMinute wsX6_isMinute) := goodIn_app (goodIn_of _ (by decide +kernel)) ggX6_ride_X6_isMinute
set_option maxRecDepth 20000 in
theorem ggX6_ride_X6_fittingAt : GoodIn wsX6_ride wsX6_fittingAt := goodIn_r _ [17, 18, 19, 20, 5, 21, 22, 23, 24, 25, 26, 27, 28, 29, 30, 31, 32, 33, 34, 35, 36, 37, 38, 39, 40, 41, 42, 43, 44, 45, 46, 47, 9, 48, 49, 50, 51, 52, 53, 54, 55, 56, 57, 58, 59, 60, 4, 61, 62, 63, 64, 65, 66, 67, 68, 69, 70, 71, 72, 73, 74, 75, 76, 77, 78, 79, 80, 81, 82, 83, 84, 85, 86, 126, 127, 128, 129, 130, 131, 132, 133, 134, 135, 136, 137, 138, 139, 140, 141, 142, 143, 144, 145, 146, 147, 148, 149, 150, 151, 152, 153, 154, 155, 156, 157, 158] (by decide +kernel) (by decide +kernel)
set_option maxRecDepth 20000 in
theorem gX6_ride_X6_fittingAt : GoodIn wsX6_ride (wsV RX6 146 RX6 yX6_fittingAt wsX6_fittingAt) := goodIn_app (goodIn_of _ (by decide +kernel)) ggX6_ride_X6_fittingAt
set_option maxRecDepth 20000 in
theorem ggX6_ride_X4_endOf : GoodIn wsX6_ride wsX4_endOf := goodIn_r _ [91, 92, 93, 64, 65, 66, 67, 68, 94, 95, 96, 90, 97, 98, 99, 100, 159, 160, 161, 162, 152, 153, 154, 155, 156] (by decide +kernel) (by decide +kernel)
set_option maxRecDepth 20000 in
theorem gX6_ride_X4_endOf : GoodIn wsX6_ride (wsV RX6 152 RX4 yX4_endOf wsX4_endOf) := goodIn_app (goodIn_of _ (by decide +kernel)) ggX6_ride_X4_endOf
set_option maxRecDepth 20000 in
theorem ggX6_ride_X1_number : GoodIn wsX6_ride wsX1_number := goodIn_r _ [67, 68, 152, 153, 154, 155, 156] (by decide +kernel) (by decide +kernel)
set_option maxRecDepth 20000 in
theorem gX6_ride_X1_number : GoodIn wsX6_ride (wsV RX6 158 RX1 yX1_number wsX1_number) := goodIn_app (goodIn_of _ (by decide +kernel)) ggX6_ride_X1_number
set_option maxRecDepth 20000 in
theorem ggX6_ride_X6_carryFirst : GoodIn wsX6_ride wsX6_carryFirst := goodIn_r _ [104, 19, 20, 5, 55, 105, 106, 107, 22, 23, 24, 25, 26, 27, 28, 29, 30, 31, 32, 33, 34, 35, 36, 37, 38, 39, 40, 41, 42, 43, 44, 45, 46, 47, 9, 48, 49, 50, 51, 52, 53, 54, 56, 57, 58, 59, 60, 4, 21, 18, 61, 62, 63, 64, 65, 66, 67, 68, 69, 70, 71, 72, 73, 74, 75, 76, 77, 78, 79, 80, 81, 82, 83, 84, 85, 86, 108, 109, 110, 111, 112, 113, 114, 126, 127, 128, 129, 130, 131, 132, 133, 134, 135, 136, 137, 138, 139, 140, 141, 142, 143, 144, 145, 146, 147, 148, 149, 150, 151, 152, 153, 154, 155, 156, 157, 158] (by decide +kernel) (by decide +kernel)
set_option maxRecDepth 20000 in
theorem gX6_ride_X6_carryFirst : GoodIn wsX6_ride (wsV RX6 160 RX6 yX6_carryFirst wsX6_carryFirst) := goodIn_app (goodIn_of _ (by decide +kernel)) ggX6_ride_X6_carryFirst
set_option maxRecDepth 20000 in
theorem ggX6_ride_X6_sendDown : GoodIn wsX6_ride wsX6_sendDown := goodIn_r _ [118, 62, 61, 119, 120, 121, 72, 122, 79, 126, 127, 128, 129, 130, 131, 132, 133, 134, 135, 136, 137, 138, 139, 140, 157, 158] (by decide +kernel) (by decide +kernel)
set_option maxRecDepth 20000 in
theorem gX6_ride_X6_sendDown : GoodIn wsX6_ride (wsV RX6 164 RX6 yX6_sendDown wsX6_sendDown) := goodIn_app (goodIn_of _ (by decide +kernel)) ggX6_ride_X6_sendDown
set_option maxRecDepth 20000 in
theorem ggX6_ride_X6_otherSide : GoodIn wsX6_ride wsX6_otherSide := goodIn_r _ [125] (by decide +kernel) (by decide +kernel)
set_option maxRecDepth 20000 in
theorem gX6_ride_X6_otherSide : GoodIn wsX6_ride (va_wsS RX6 167 yX6_otherSide wsX6_otherSide) := goodIn_app (goodIn_of _ (by decide +kernel)) ggX6_ride_X6_otherSide
theorem dX6_ride_0 : decode cX6_ride 0 = .ok (.iload_n 1, 1) := by decide +kernel
theorem dX6_ride_1 : decode cX6_ride 1 = .ok (.invokestatic 109, 3) := by decide +kernel
theorem dX6_ride_4 : decode cX6_ride 4 = .ok (.ifCond .eq 24, 3) := by decide +kernel
theorem dX6_ride_7 : decode cX6_ride 7 = .ok (.iload_n 1, 1) := by decide +kernel
theorem dX6_ride_8 : decode cX6_ride 8 = .ok (.aload_n 0, 1) := by decide +kernel
theorem dX6_ride_9 : decode cX6_ride 9 = .ok (.getfield 149, 3) := by decide +kernel
theorem dX6_ride_12 : decode cX6_ride 12 = .ok (.if_icmp .lt 16, 3) := by decide +kernel
theorem dX6_ride_15 : decode cX6_ride 15 = .ok (.iload_n 2, 1) := by decide +kernel
theorem dX6_ride_16 : decode cX6_ride 16 = .ok (.ifCond .lt 12, 3) := by decide +kernel
theorem dX6_ride_19 : decode cX6_ride 19 = .ok (.iload_n 2, 1) := by decide +kernel
theorem dX6_ride_20 : decode cX6_ride 20 = .ok (.aload_n 0, 1) := by decide +kernel
theorem dX6_ride_21 : decode cX6_ride 21 = .ok (.iload_n 1, 1) := by decide +kernel
theorem dX6_ride_22 : decode cX6_ride 22 = .ok (.invokevirtual 146, 3) := by decide +kernel
theorem dX6_ride_25 : decode cX6_ride 25 = .ok (.if_icmp .le 5, 3) := by decide +kernel
theorem dX6_ride_28 : decode cX6_ride 28 = .ok (.iconst (-1), 1) := by decide +kernel
theorem dX6_ride_29 : decode cX6_ride 29 = .ok (.ireturn, 1) := by decide +kernel
theorem dX6_ride_30 : decode cX6_ride 30 = .ok (.aload_n 0, 1) := by decide +kernel
theorem dX6_ride_31 : decode cX6_ride 31 = .ok (.getfield 30, 3) := by decide +kernel
theorem dX6_ride_34 : decode cX6_ride 34 = .ok (.iload_n 1, 1) := by decide +kernel
theorem dX6_ride_35 : decode cX6_ride 35 = .ok (.invokevirtual 152, 3) := by decide +kernel
theorem dX6_ride_38 : decode cX6_ride 38 = .ok (.istore_n 3, 1) := by decide +kernel
theorem dX6_ride_39 : decode cX6_ride 39 = .ok (.aload_n 0, 1) := by decide +kernel
theorem dX6_ride_40 : decode cX6_ride 40 = .ok (.getfield 155, 3) := by decide +kernel
theorem dX6_ride_43 : decode cX6_ride 43 = .ok (.aload_n 0, 1) := by decide +kernel
theorem dX6_ride_44 : decode cX6_ride 44 = .ok (.getfield 21, 3) := by decide +kernel
theorem dX6_ride_47 : decode cX6_ride 47 = .ok (.iconst 4, 1) := by decide +kernel
theorem dX6_ride_48 : decode cX6_ride 48 = .ok (.invokevirtual 158, 3) := by decide +kernel
theorem dX6_ride_51 : decode cX6_ride 51 = .ok (.if_icmp .ge 10, 3) := by decide +kernel
theorem dX6_ride_54 : decode cX6_ride 54 = .ok (.iload_n 3, 1) := by decide +kernel
theorem dX6_ride_55 : decode cX6_ride 55 = .ok (.sipush 20000, 3) := by decide +kernel
theorem dX6_ride_58 : decode cX6_ride 58 = .ok (.if_icmp .le 5, 3) := by decide +kernel
theorem dX6_ride_61 : decode cX6_ride 61 = .ok (.iconst (-1), 1) := by decide +kernel
theorem dX6_ride_62 : decode cX6_ride 62 = .ok (.ireturn, 1) := by decide +kernel
theorem dX6_ride_63 : decode cX6_ride 63 = .ok (.aload_n 0, 1) := by decide +kernel
theorem dX6_ride_64 : decode cX6_ride 64 = .ok (.iload_n 2, 1) := by decide +kernel
theorem dX6_ride_65 : decode cX6_ride 65 = .ok (.iload_n 1, 1) := by decide +kernel
theorem dX6_ride_66 : decode cX6_ride 66 = .ok (.invokevirtual 160, 3) := by decide +kernel
theorem dX6_ride_69 : decode cX6_ride 69 = .ok (.istore 4, 2) := by decide +kernel
theorem dX6_ride_71 : decode cX6_ride 71 = .ok (.aload_n 0, 1) := by decide +kernel
theorem dX6_ride_72 : decode cX6_ride 72 = .ok (.aload_n 0, 1) := by decide +kernel
theorem dX6_ride_73 : decode cX6_ride 73 = .ok (.getfield 67, 3) := by decide +kernel
theorem dX6_ride_76 : decode cX6_ride 76 = .ok (.ifCond .ne 8, 3) := by decide +kernel
theorem dX6_ride_79 : decode cX6_ride 79 = .ok (.iload 4, 2) := by decide +kernel
theorem dX6_ride_81 : decode cX6_ride 81 = .ok (.goto 6, 3) := by decide +kernel
theorem dX6_ride_84 : decode cX6_ride 84 = .ok (.iload 4, 2) := by decide +kernel
theorem dX6_ride_86 : decode cX6_ride 86 = .ok (.ineg, 1) := by decide +kernel
theorem dX6_ride_87 : decode cX6_ride 87 = .ok (.aload_n 0, 1) := by decide +kernel
theorem dX6_ride_88 : decode cX6_ride 88 = .ok (.getfield 155, 3) := by decide +kernel
theorem dX6_ride_91 : decode cX6_ride 91 = .ok (.iadd, 1) := by decide +kernel
theorem dX6_ride_92 : decode cX6_ride 92 = .ok (.invokevirtual 164, 3) := by decide +kernel
theorem dX6_ride_95 : decode cX6_ride 95 = .ok (.aload_n 0, 1) := by decide +kernel
theorem dX6_ride_96 : decode cX6_ride 96 = .ok (.aload_n 0, 1) := by decide +kernel
theorem dX6_ride_97 : decode cX6_ride 97 = .ok (.getfield 67, 3) := by decide +kernel
theorem dX6_ride_100 : decode cX6_ride 100 = .ok (.invokestatic 167, 3) := by decide +kernel
theorem dX6_ride_103 : decode cX6_ride 103 = .ok (.putfield 67, 3) := by decide +kernel
theorem dX6_ride_106 : decode cX6_ride 106 = .ok (.aload_n 0, 1) := by decide +kernel
theorem dX6_ride_107 : decode cX6_ride 107 = .ok (.iload_n 3, 1) := by decide +kernel
theorem dX6_ride_108 : decode cX6_ride 108 = .ok (.putfield 149, 3) := by decide +kernel
theorem dX6_ride_111 : decode cX6_ride 111 = .ok (.aload_n 0, 1) := by decide +kernel
theorem dX6_ride_112 : decode cX6_ride 112 = .ok (.dup, 1) := by decide +kernel
theorem dX6_ride_113 : decode cX6_ride 113 = .ok (.getfield 155, 3) := by decide +kernel
theorem dX6_ride_116 : decode cX6_ride 116 = .ok (.iconst 1, 1) := by decide +kernel
theorem dX6_ride_117 : decode cX6_ride 117 = .ok (.iadd, 1) := by decide +kernel
theorem dX6_ride_118 : decode cX6_ride 118 = .ok (.putfield 155, 3) := by decide +kernel
theorem dX6_ride_121 : decode cX6_ride 121 = .ok (.aload_n 0, 1) := by decide +kernel
theorem dX6_ride_122 : decode cX6_ride 122 = .ok (.dup, 1) := by decide +kernel
theorem dX6_ride_123 : decode cX6_ride 123 = .ok (.getfield 170, 3) := by decide +kernel
theorem dX6_ride_126 : decode cX6_ride 126 = .ok (.iconst 1, 1) := by decide +kernel
theorem dX6_ride_127 : decode cX6_ride 127 = .ok (.iadd, 1) := by decide +kernel
theorem dX6_ride_128 : decode cX6_ride 128 = .ok (.putfield 170, 3) := by decide +kernel
theorem dX6_ride_131 : decode cX6_ride 131 = .ok (.iload_n 3, 1) := by decide +kernel
theorem dX6_ride_132 : decode cX6_ride 132 = .ok (.ireturn, 1) := by decide +kernel
set_option maxRecDepth 20000 in
theorem ggX6_renew_X6_isMinute : GoodIn wsX6_renew wsX6_isMinute := goodIn_r _ [7, 8, 9, 6, 10] (by decide +kernel) (by decide +kernel)
set_option maxRecDepth 20000 in
theorem gX6_renew_X6_isMinute : GoodIn wsX6_renew (va_wsS RX6 109 yX6_isMinute wsX6_isMinute) := goodIn_app (goodIn_of _ (by decide +kernel)) ggX6_renew_X6_isMinute
set_option maxRecDepth 20000 in
theorem ggX6_renew_X1_number : GoodIn wsX6_renew wsX1_number := goodIn_r _ [15, 16, 32, 33, 34, 35, 36] (by decide +kernel) (by decide +kernel)
set_option maxRecDepth 20000 in
theorem gX6_renew_X1_number : GoodIn wsX6_renew (wsV RX6 158 RX1 yX1_number wsX1_number) := goodIn_app (goodIn_of _ (by decide +kernel)) ggX6_renew_X1_number
theorem dX6_renew_0 : decode cX6_renew 0 = .ok (.iload_n 1, 1) := by decide +kernel
theorem dX6_renew_1 : decode cX6_renew 1 = .ok (.invokestatic 109, 3) := by decide +kernel
theorem dX6_renew_4 : decode cX6_renew 4 = .ok (.ifCond .eq 11, 3) := by decide +kernel
theorem dX6_renew_7 : decode cX6_renew 7 = .ok (.iload_n 1, 1) := by decide +kernel
theorem dX6_renew_8 : decode cX6_renew 8 = .ok (.aload_n 0, 1) := by decide +kernel
theorem dX6_renew_9 : decode cX6_renew 9 = .ok (.getfield 149, 3) := by decide +kernel
theorem dX6_renew_12 : decode cX6_renew 12 = .ok (.if_icmp .ge 5, 3) := by decide +kernel
theorem dX6_renew_15 : decode cX6_renew 15 = .ok (.iconst (-1), 1) := by decide +kernel
theorem dX6_renew_16 : decode cX6_renew 16 = .ok (.ireturn, 1) := by decide +kernel
theorem dX6_renew_17 : decode cX6_renew 17 = .ok (.iload_n 1, 1) := by decide +kernel
theorem dX6_renew_18 : decode cX6_renew 18 = .ok (.aload_n 0, 1) := by decide +kernel
theorem dX6_renew_19 : decode cX6_renew 19 = .ok (.getfield 21, 3) := by decide +kernel
