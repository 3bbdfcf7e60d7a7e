theorem dX7_feed_41 : decode cX7_feed 41 = .ok (.aload_n 0, 1) := by decide +kernel
theorem dX7_feed_42 : decode cX7_feed 42 = .ok (.getfield 88, 3) := by decide +kernel
theorem dX7_feed_45 : decode cX7_feed 45 = .ok (.ireturn, 1) := by decide +kernel
theorem dX7_asAtFirst_0 : decode cX7_asAtFirst 0 = .ok (.aload_n 0, 1) := by decide +kernel
theorem dX7_asAtFirst_1 : decode cX7_asAtFirst 1 = .ok (.iconst 0, 1) := by decide +kernel
theorem dX7_asAtFirst_2 : decode cX7_asAtFirst 2 = .ok (.bipush 10, 2) := by decide +kernel
theorem dX7_asAtFirst_4 : decode cX7_asAtFirst 4 = .ok (.iastore, 1) := by decide +kernel
theorem dX7_asAtFirst_5 : decode cX7_asAtFirst 5 = .ok (.aload_n 0, 1) := by decide +kernel
theorem dX7_asAtFirst_6 : decode cX7_asAtFirst 6 = .ok (.iconst 1, 1) := by decide +kernel
theorem dX7_asAtFirst_7 : decode cX7_asAtFirst 7 = .ok (.iconst 3, 1) := by decide +kernel
theorem dX7_asAtFirst_8 : decode cX7_asAtFirst 8 = .ok (.iastore, 1) := by decide +kernel
theorem dX7_asAtFirst_9 : decode cX7_asAtFirst 9 = .ok (.aload_n 0, 1) := by decide +kernel
theorem dX7_asAtFirst_10 : decode cX7_asAtFirst 10 = .ok (.iconst 2, 1) := by decide +kernel
theorem dX7_asAtFirst_11 : decode cX7_asAtFirst 11 = .ok (.iconst 5, 1) := by decide +kernel
theorem dX7_asAtFirst_12 : decode cX7_asAtFirst 12 = .ok (.iastore, 1) := by decide +kernel
theorem dX7_asAtFirst_13 : decode cX7_asAtFirst 13 = .ok (.aload_n 0, 1) := by decide +kernel
theorem dX7_asAtFirst_14 : decode cX7_asAtFirst 14 = .ok (.iconst 3, 1) := by decide +kernel
theorem dX7_asAtFirst_15 : decode cX7_asAtFirst 15 = .ok (.iconst 2, 1) := by decide +kernel
theorem dX7_asAtFirst_16 : decode cX7_asAtFirst 16 = .ok (.iastore, 1) := by decide +kernel
theorem dX7_asAtFirst_17 : decode cX7_asAtFirst 17 = .ok (.aload_n 0, 1) := by decide +kernel
theorem dX7_asAtFirst_18 : decode cX7_asAtFirst 18 = .ok (.iconst 4, 1) := by decide +kernel
theorem dX7_asAtFirst_19 : decode cX7_asAtFirst 19 = .ok (.bipush 50, 2) := by decide +kernel
theorem dX7_asAtFirst_21 : decode cX7_asAtFirst 21 = .ok (.iastore, 1) := by decide +kernel
theorem dX7_asAtFirst_22 : decode cX7_asAtFirst 22 = .ok (.aload_n 0, 1) := by decide +kernel
theorem dX7_asAtFirst_23 : decode cX7_asAtFirst 23 = .ok (.iconst 5, 1) := by decide +kernel
theorem dX7_asAtFirst_24 : decode cX7_asAtFirst 24 = .ok (.bipush 30, 2) := by decide +kernel
theorem dX7_asAtFirst_26 : decode cX7_asAtFirst 26 = .ok (.iastore, 1) := by decide +kernel
theorem dX7_asAtFirst_27 : decode cX7_asAtFirst 27 = .ok (.return_, 1) := by decide +kernel
theorem dX7_letter_0 : decode cX7_letter 0 = .ok (.iload_n 0, 1) := by decide +kernel
theorem dX7_letter_1 : decode cX7_letter 1 = .ok (.tableswitch 83 103 116 #[73, 83, 75, 83, 77, 83, 83, 83, 83, 83, 83, 81, 79, 71], 71) := by decide +kernel
theorem dX7_letter_72 : decode cX7_letter 72 = .ok (.iconst 0, 1) := by decide +kernel
theorem dX7_letter_73 : decode cX7_letter 73 = .ok (.ireturn, 1) := by decide +kernel
theorem dX7_letter_74 : decode cX7_letter 74 = .ok (.iconst 1, 1) := by decide +kernel
theorem dX7_letter_75 : decode cX7_letter 75 = .ok (.ireturn, 1) := by decide +kernel
theorem dX7_letter_76 : decode cX7_letter 76 = .ok (.iconst 2, 1) := by decide +kernel
theorem dX7_letter_77 : decode cX7_letter 77 = .ok (.ireturn, 1) := by decide +kernel
theorem dX7_letter_78 : decode cX7_letter 78 = .ok (.iconst 3, 1) := by decide +kernel
theorem dX7_letter_79 : decode cX7_letter 79 = .ok (.ireturn, 1) := by decide +kernel
theorem dX7_letter_80 : decode cX7_letter 80 = .ok (.iconst 4, 1) := by decide +kernel
theorem dX7_letter_81 : decode cX7_letter 81 = .ok (.ireturn, 1) := by decide +kernel
theorem dX7_letter_82 : decode cX7_letter 82 = .ok (.iconst 5, 1) := by decide +kernel
theorem dX7_letter_83 : decode cX7_letter 83 = .ok (.ireturn, 1) := by decide +kernel
theorem dX7_letter_84 : decode cX7_letter 84 = .ok (.iconst (-1), 1) := by decide +kernel
theorem dX7_letter_85 : decode cX7_letter 85 = .ok (.ireturn, 1) := by decide +kernel
set_option maxRecDepth 20000 in
theorem ggX7_canBe_X7_lies : GoodIn wsX7_canBe wsX7_lies := goodIn_r _ [4] (by decide +kernel) (by decide +kernel)
set_option maxRecDepth 20000 in
theorem gX7_canBe_X7_lies : GoodIn wsX7_canBe (va_wsS RX7 95 yX7_lies wsX7_lies) := goodIn_app (goodIn_of _ (by decide +kernel)) ggX7_canBe_X7_lies
theorem dX7_canBe_0 : decode cX7_canBe 0 = .ok (.iload_n 0, 1) := by decide +kernel
theorem dX7_canBe_1 : decode cX7_canBe 1 = .ok (.iconst 1, 1) := by decide +kernel
theorem dX7_canBe_2 : decode cX7_canBe 2 = .ok (.if_icmp .eq 8, 3) := by decide +kernel
theorem dX7_canBe_5 : decode cX7_canBe 5 = .ok (.iload_n 0, 1) := by decide +kernel
theorem dX7_canBe_6 : decode cX7_canBe 6 = .ok (.iconst 2, 1) := by decide +kernel
theorem dX7_canBe_7 : decode cX7_canBe 7 = .ok (.if_icmp .ne 15, 3) := by decide +kernel
theorem dX7_canBe_10 : decode cX7_canBe 10 = .ok (.iload_n 1, 1) := by decide +kernel
theorem dX7_canBe_11 : decode cX7_canBe 11 = .ok (.bipush 99, 2) := by decide +kernel
theorem dX7_canBe_13 : decode cX7_canBe 13 = .ok (.if_icmp .gt 7, 3) := by decide +kernel
theorem dX7_canBe_16 : decode cX7_canBe 16 = .ok (.iconst 1, 1) := by decide +kernel
theorem dX7_canBe_17 : decode cX7_canBe 17 = .ok (.goto 4, 3) := by decide +kernel
theorem dX7_canBe_20 : decode cX7_canBe 20 = .ok (.iconst 0, 1) := by decide +kernel
theorem dX7_canBe_21 : decode cX7_canBe 21 = .ok (.ireturn, 1) := by decide +kernel
theorem dX7_canBe_22 : decode cX7_canBe 22 = .ok (.iload_n 0, 1) := by decide +kernel
theorem dX7_canBe_23 : decode cX7_canBe 23 = .ok (.iconst 3, 1) := by decide +kernel
theorem dX7_canBe_24 : decode cX7_canBe 24 = .ok (.if_icmp .ne 17, 3) := by decide +kernel
theorem dX7_canBe_27 : decode cX7_canBe 27 = .ok (.iload_n 1, 1) := by decide +kernel
theorem dX7_canBe_28 : decode cX7_canBe 28 = .ok (.bipush 20, 2) := by decide +kernel
theorem dX7_canBe_30 : decode cX7_canBe 30 = .ok (.if_icmp .gt 7, 3) := by decide +kernel
theorem dX7_canBe_33 : decode cX7_canBe 33 = .ok (.iconst 1, 1) := by decide +kernel
theorem dX7_canBe_34 : decode cX7_canBe 34 = .ok (.goto 15, 3) := by decide +kernel
theorem dX7_canBe_37 : decode cX7_canBe 37 = .ok (.iconst 0, 1) := by decide +kernel
theorem dX7_canBe_38 : decode cX7_canBe 38 = .ok (.goto 11, 3) := by decide +kernel
theorem dX7_canBe_41 : decode cX7_canBe 41 = .ok (.iload_n 1, 1) := by decide +kernel
theorem dX7_canBe_42 : decode cX7_canBe 42 = .ok (.iconst 1, 1) := by decide +kernel
theorem dX7_canBe_43 : decode cX7_canBe 43 = .ok (.sipush 999, 3) := by decide +kernel
theorem dX7_canBe_46 : decode cX7_canBe 46 = .ok (.invokestatic 95, 3) := by decide +kernel
theorem dX7_canBe_49 : decode cX7_canBe 49 = .ok (.ireturn, 1) := by decide +kernel
theorem dX7_byteAt_0 : decode cX7_byteAt 0 = .ok (.iload_n 1, 1) := by decide +kernel
theorem dX7_byteAt_1 : decode cX7_byteAt 1 = .ok (.iload_n 2, 1) := by decide +kernel
theorem dX7_byteAt_2 : decode cX7_byteAt 2 = .ok (.if_icmp .ge 16, 3) := by decide +kernel
theorem dX7_byteAt_5 : decode cX7_byteAt 5 = .ok (.aload_n 0, 1) := by decide +kernel
theorem dX7_byteAt_6 : decode cX7_byteAt 6 = .ok (.getfield 7, 3) := by decide +kernel
theorem dX7_byteAt_9 : decode cX7_byteAt 9 = .ok (.iload_n 1, 1) := by decide +kernel
theorem dX7_byteAt_10 : decode cX7_byteAt 10 = .ok (.baload, 1) := by decide +kernel
theorem dX7_byteAt_11 : decode cX7_byteAt 11 = .ok (.sipush 255, 3) := by decide +kernel
theorem dX7_byteAt_14 : decode cX7_byteAt 14 = .ok (.iand, 1) := by decide +kernel
theorem dX7_byteAt_15 : decode cX7_byteAt 15 = .ok (.goto 4, 3) := by decide +kernel
theorem dX7_byteAt_18 : decode cX7_byteAt 18 = .ok (.iconst 0, 1) := by decide +kernel
theorem dX7_byteAt_19 : decode cX7_byteAt 19 = .ok (.ireturn, 1) := by decide +kernel
set_option maxRecDepth 20000 in
theorem ggX7_reads_X7_asAtFirst : GoodIn wsX7_reads wsX7_asAtFirst := goodIn_r _ [5] (by decide +kernel) (by decide +kernel)
set_option maxRecDepth 20000 in
theorem gX7_reads_X7_asAtFirst : GoodIn wsX7_reads (va_wsS RX7 84 yX7_asAtFirst wsX7_asAtFirst) := goodIn_app (goodIn_of _ (by decide +kernel)) ggX7_reads_X7_asAtFirst
set_option maxRecDepth 20000 in
theorem ggX7_reads_X7_byteAt : GoodIn wsX7_reads wsX7_byteAt := goodIn_r _ [9, 10, 20, 21, 22, 23, 24, 25, 26, 27, 28, 29, 30, 31, 32, 33, 34, 35, 36, 37, 38, 39, 40, 41, 42, 43, 44, 45, 46, 47, 48, 49, 50, 51, 52, 53, 54, 55] (by decide +kernel) (by decide +kernel)
set_option maxRecDepth 20000 in
theorem gX7_reads_X7_byteAt : GoodIn wsX7_reads (wsV RX7 99 RX7 yX7_byteAt wsX7_byteAt) := goodIn_app (goodIn_of _ (by decide +kernel)) ggX7_reads_X7_byteAt
set_option maxRecDepth 20000 in
theorem ggX7_reads_X7_letter : GoodIn wsX7_reads wsX7_letter := goodIn_r _ [13] (by decide +kernel) (by decide +kernel)
set_option maxRecDepth 20000 in
theorem gX7_reads_X7_letter : GoodIn wsX7_reads (va_wsS RX7 103 yX7_letter wsX7_letter) := goodIn_app (goodIn_of _ (by decide +kernel)) ggX7_reads_X7_letter
set_option maxRecDepth 20000 in
theorem ggX7_reads_X7_lies : GoodIn wsX7_reads wsX7_lies := goodIn_r _ [16] (by decide +kernel) (by decide +kernel)
set_option maxRecDepth 20000 in
theorem gX7_reads_X7_lies : GoodIn wsX7_reads (va_wsS RX7 95 yX7_lies wsX7_lies) := goodIn_app (goodIn_of _ (by decide +kernel)) ggX7_reads_X7_lies
set_option maxRecDepth 20000 in
theorem ggX7_reads_X7_canBe : GoodIn wsX7_reads wsX7_canBe := goodIn_r _ [19, 14, 15, 4, 16] (by decide +kernel) (by decide +kernel)
set_option maxRecDepth 20000 in
theorem gX7_reads_X7_canBe : GoodIn wsX7_reads (va_wsS RX7 107 yX7_canBe wsX7_canBe) := goodIn_app (goodIn_of _ (by decide +kernel)) ggX7_reads_X7_canBe
theorem dX7_reads_0 : decode cX7_reads 0 = .ok (.aload_n 0, 1) := by decide +kernel
theorem dX7_reads_1 : decode cX7_reads 1 = .ok (.getfield 21, 3) := by decide +kernel
theorem dX7_reads_4 : decode cX7_reads 4 = .ok (.invokestatic 84, 3) := by decide +kernel
theorem dX7_reads_7 : decode cX7_reads 7 = .ok (.iconst 0, 1) := by decide +kernel
theorem dX7_reads_8 : decode cX7_reads 8 = .ok (.istore_n 2, 1) := by decide +kernel
theorem dX7_reads_9 : decode cX7_reads 9 = .ok (.iconst 0, 1) := by decide +kernel
theorem dX7_reads_10 : decode cX7_reads 10 = .ok (.istore_n 3, 1) := by decide +kernel
theorem dX7_reads_11 : decode cX7_reads 11 = .ok (.iload_n 3, 1) := by decide +kernel
theorem dX7_reads_12 : decode cX7_reads 12 = .ok (.iload_n 1, 1) := by decide +kernel
theorem dX7_reads_13 : decode cX7_reads 13 = .ok (.if_icmp .gt 168, 3) := by decide +kernel
theorem dX7_reads_16 : decode cX7_reads 16 = .ok (.aload_n 0, 1) := by decide +kernel
theorem dX7_reads_17 : decode cX7_reads 17 = .ok (.iload_n 2, 1) := by decide +kernel
theorem dX7_reads_18 : decode cX7_reads 18 = .ok (.iload_n 1, 1) := by decide +kernel
theorem dX7_reads_19 : decode cX7_reads 19 = .ok (.invokevirtual 99, 3) := by decide +kernel
theorem dX7_reads_22 : decode cX7_reads 22 = .ok (.invokestatic 103, 3) := by decide +kernel
theorem dX7_reads_25 : decode cX7_reads 25 = .ok (.istore 4, 2) := by decide +kernel
theorem dX7_reads_27 : decode cX7_reads 27 = .ok (.iload 4, 2) := by decide +kernel
theorem dX7_reads_29 : decode cX7_reads 29 = .ok (.iconst (-1), 1) := by decide +kernel
theorem dX7_reads_30 : decode cX7_reads 30 = .ok (.if_icmp .ne 8, 3) := by decide +kernel
theorem dX7_reads_33 : decode cX7_reads 33 = .ok (.bipush 100, 2) := by decide +kernel
theorem dX7_reads_35 : decode cX7_reads 35 = .ok (.iload_n 2, 1) := by decide +kernel
theorem dX7_reads_36 : decode cX7_reads 36 = .ok (.iadd, 1) := by decide +kernel
theorem dX7_reads_37 : decode cX7_reads 37 = .ok (.ireturn, 1) := by decide +kernel
theorem dX7_reads_38 : decode cX7_reads 38 = .ok (.iinc 2 1, 3) := by decide +kernel
theorem dX7_reads_41 : decode cX7_reads 41 = .ok (.aload_n 0, 1) := by decide +kernel
theorem dX7_reads_42 : decode cX7_reads 42 = .ok (.iload_n 2, 1) := by decide +kernel
theorem dX7_reads_43 : decode cX7_reads 43 = .ok (.iload_n 1, 1) := by decide +kernel
theorem dX7_reads_44 : decode cX7_reads 44 = .ok (.invokevirtual 99, 3) := by decide +kernel
theorem dX7_reads_47 : decode cX7_reads 47 = .ok (.bipush 48, 2) := by decide +kernel
theorem dX7_reads_49 : decode cX7_reads 49 = .ok (.bipush 57, 2) := by decide +kernel
theorem dX7_reads_51 : decode cX7_reads 51 = .ok (.invokestatic 95, 3) := by decide +kernel
theorem dX7_reads_54 : decode cX7_reads 54 = .ok (.ifCond .ne 9, 3) := by decide +kernel
theorem dX7_reads_57 : decode cX7_reads 57 = .ok (.sipush 200, 3) := by decide +kernel
theorem dX7_reads_60 : decode cX7_reads 60 = .ok (.iload_n 2, 1) := by decide +kernel
theorem dX7_reads_61 : decode cX7_reads 61 = .ok (.iadd, 1) := by decide +kernel
theorem dX7_reads_62 : decode cX7_reads 62 = .ok (.ireturn, 1) := by decide +kernel
theorem dX7_reads_63 : decode cX7_reads 63 = .ok (.iload_n 2, 1) := by decide +kernel
theorem dX7_reads_64 : decode cX7_reads 64 = .ok (.istore 5, 2) := by decide +kernel
theorem dX7_reads_66 : decode cX7_reads 66 = .ok (.iconst 0, 1) := by decide +kernel
theorem dX7_reads_67 : decode cX7_reads 67 = .ok (.istore 6, 2) := by decide +kernel
theorem dX7_reads_69 : decode cX7_reads 69 = .ok (.aload_n 0, 1) := by decide +kernel
theorem dX7_reads_70 : decode cX7_reads 70 = .ok (.iload_n 2, 1) := by decide +kernel
theorem dX7_reads_71 : decode cX7_reads 71 = .ok (.iload_n 1, 1) := by decide +kernel
theorem dX7_reads_72 : decode cX7_reads 72 = .ok (.invokevirtual 99, 3) := by decide +kernel
theorem dX7_reads_75 : decode cX7_reads 75 = .ok (.bipush 48, 2) := by decide +kernel
theorem dX7_reads_77 : decode cX7_reads 77 = .ok (.bipush 57, 2) := by decide +kernel
theorem dX7_reads_79 : decode cX7_reads 79 = .ok (.invokestatic 95, 3) := by decide +kernel
theorem dX7_reads_82 : decode cX7_reads 82 = .ok (.ifCond .eq 40, 3) := by decide +kernel
theorem dX7_reads_85 : decode cX7_reads 85 = .ok (.iload_n 2, 1) := by decide +kernel
theorem dX7_reads_86 : decode cX7_reads 86 = .ok (.iload 5, 2) := by decide +kernel
theorem dX7_reads_88 : decode cX7_reads 88 = .ok (.iconst 4, 1) := by decide +kernel
theorem dX7_reads_89 : decode cX7_reads 89 = .ok (.iadd, 1) := by decide +kernel
theorem dX7_reads_90 : decode cX7_reads 90 = .ok (.if_icmp .ne 9, 3) := by decide +kernel
theorem dX7_reads_93 : decode cX7_reads 93 = .ok (.sipush 300, 3) := by decide +kernel
theorem dX7_reads_96 : decode cX7_reads 96 = .ok (.iload_n 2, 1) := by decide +kernel
theorem dX7_reads_97 : decode cX7_reads 97 = .ok (.iadd, 1) := by decide +kernel
theorem dX7_reads_98 : decode cX7_reads 98 = .ok (.ireturn, 1) := by decide +kernel
theorem dX7_reads_99 : decode cX7_reads 99 = .ok (.bipush 10, 2) := by decide +kernel
theorem dX7_reads_101 : decode cX7_reads 101 = .ok (.iload 6, 2) := by decide +kernel
theorem dX7_reads_103 : decode cX7_reads 103 = .ok (.imul, 1) := by decide +kernel
theorem dX7_reads_104 : decode cX7_reads 104 = .ok (.aload_n 0, 1) := by decide +kernel
theorem dX7_reads_105 : decode cX7_reads 105 = .ok (.iload_n 2, 1) := by decide +kernel
theorem dX7_reads_106 : decode cX7_reads 106 = .ok (.iload_n 1, 1) := by decide +kernel
theorem dX7_reads_107 : decode cX7_reads 107 = .ok (.invokevirtual 99, 3) := by decide +kernel
theorem dX7_reads_110 : decode cX7_reads 110 = .ok (.iadd, 1) := by decide +kernel
theorem dX7_reads_111 : decode cX7_reads 111 = .ok (.bipush 48, 2) := by decide +kernel
theorem dX7_reads_113 : decode cX7_reads 113 = .ok (.isub, 1) := by decide +kernel
theorem dX7_reads_114 : decode cX7_reads 114 = .ok (.istore 6, 2) := by decide +kernel
theorem dX7_reads_116 : decode cX7_reads 116 = .ok (.iinc 2 1, 3) := by decide +kernel
theorem dX7_reads_119 : decode cX7_reads 119 = .ok (.goto (-50), 3) := by decide +kernel
theorem dX7_reads_122 : decode cX7_reads 122 = .ok (.iload 4, 2) := by decide +kernel
theorem dX7_reads_124 : decode cX7_reads 124 = .ok (.iload 6, 2) := by decide +kernel
theorem dX7_reads_126 : decode cX7_reads 126 = .ok (.invokestatic 107, 3) := by decide +kernel
theorem dX7_reads_129 : decode cX7_reads 129 = .ok (.ifCond .ne 10, 3) := by decide +kernel
theorem dX7_reads_132 : decode cX7_reads 132 = .ok (.sipush 400, 3) := by decide +kernel
theorem dX7_reads_135 : decode cX7_reads 135 = .ok (.iload 5, 2) := by decide +kernel
theorem dX7_reads_137 : decode cX7_reads 137 = .ok (.iadd, 1) := by decide +kernel
theorem dX7_reads_138 : decode cX7_reads 138 = .ok (.ireturn, 1) := by decide +kernel
theorem dX7_reads_139 : decode cX7_reads 139 = .ok (.aload_n 0, 1) := by decide +kernel
theorem dX7_reads_140 : decode cX7_reads 140 = .ok (.getfield 21, 3) := by decide +kernel
theorem dX7_reads_143 : decode cX7_reads 143 = .ok (.iload 4, 2) := by decide +kernel
theorem dX7_reads_145 : decode cX7_reads 145 = .ok (.iload 6, 2) := by decide +kernel
theorem dX7_reads_147 : decode cX7_reads 147 = .ok (.iastore, 1) := by decide +kernel
theorem dX7_reads_148 : decode cX7_reads 148 = .ok (.iload_n 2, 1) := by decide +kernel
theorem dX7_reads_149 : decode cX7_reads 149 = .ok (.iload_n 1, 1) := by decide +kernel
theorem dX7_reads_150 : decode cX7_reads 150 = .ok (.if_icmp .ne 5, 3) := by decide +kernel
theorem dX7_reads_153 : decode cX7_reads 153 = .ok (.iconst 0, 1) := by decide +kernel
theorem dX7_reads_154 : decode cX7_reads 154 = .ok (.ireturn, 1) := by decide +kernel
theorem dX7_reads_155 : decode cX7_reads 155 = .ok (.aload_n 0, 1) := by decide +kernel
theorem dX7_reads_156 : decode cX7_reads 156 = .ok (.iload_n 2, 1) := by decide +kernel
theorem dX7_reads_157 : decode cX7_reads 157 = .ok (.iload_n 1, 1) := by decide +kernel
theorem dX7_reads_158 : decode cX7_reads 158 = .ok (.invokevirtual 99, 3) := by decide +kernel
theorem dX7_reads_161 : decode cX7_reads 161 = .ok (.bipush 59, 2) := by decide +kernel
theorem dX7_reads_163 : decode cX7_reads 163 = .ok (.if_icmp .eq 9, 3) := by decide +kernel
theorem dX7_reads_166 : decode cX7_reads 166 = .ok (.sipush 500, 3) := by decide +kernel
theorem dX7_reads_169 : decode cX7_reads 169 = .ok (.iload_n 2, 1) := by decide +kernel
theorem dX7_reads_170 : decode cX7_reads 170 = .ok (.iadd, 1) := by decide +kernel
theorem dX7_reads_171 : decode cX7_reads 171 = .ok (.ireturn, 1) := by decide +kernel
theorem dX7_reads_172 : decode cX7_reads 172 = .ok (.iinc 2 1, 3) := by decide +kernel
theorem dX7_reads_175 : decode cX7_reads 175 = .ok (.iinc 3 1, 3) := by decide +kernel
theorem dX7_reads_178 : decode cX7_reads 178 = .ok (.goto (-167), 3) := by decide +kernel
theorem dX7_reads_181 : decode cX7_reads 181 = .ok (.bipush 100, 2) := by decide +kernel
theorem dX7_reads_183 : decode cX7_reads 183 = .ok (.iload_n 2, 1) := by decide +kernel
theorem dX7_reads_184 : decode cX7_reads 184 = .ok (.iadd, 1) := by decide +kernel
theorem dX7_reads_185 : decode cX7_reads 185 = .ok (.ireturn, 1) := by decide +kernel
set_option maxRecDepth 20000 in
theorem ggX7_law_X7_reads : GoodIn wsX7_law wsX7_reads := goodIn_r _ [8, 3, 9, 10, 7, 11, 12, 13, 14, 15, 16, 17, 18, 19, 20, 21, 22, 23, 24, 25, 26, 27, 28, 29, 30, 31, 32, 33, 34, 35, 36, 37, 38, 39, 40, 41, 42, 43, 44, 45, 46, 47, 48, 49, 50, 51, 52, 53, 54, 55, 56, 57, 58, 59, 60, 61] (by decide +kernel) (by decide +kernel)
set_option maxRecDepth 20000 in
theorem gX7_law_X7_reads : GoodIn wsX7_law (wsV RX7 111 RX7 yX7_reads wsX7_reads) := goodIn_app (goodIn_of _ (by decide +kernel)) ggX7_law_X7_reads
theorem dX7_law_0 : decode cX7_law 0 = .ok (.iload_n 1, 1) := by decide +kernel
theorem dX7_law_1 : decode cX7_law 1 = .ok (.ifCond .lt 11, 3) := by decide +kernel
theorem dX7_law_4 : decode cX7_law 4 = .ok (.iload_n 1, 1) := by decide +kernel
theorem dX7_law_5 : decode cX7_law 5 = .ok (.aload_n 0, 1) := by decide +kernel
theorem dX7_law_6 : decode cX7_law 6 = .ok (.getfield 88, 3) := by decide +kernel
theorem dX7_law_9 : decode cX7_law 9 = .ok (.if_icmp .le 5, 3) := by decide +kernel
theorem dX7_law_12 : decode cX7_law 12 = .ok (.iconst (-1), 1) := by decide +kernel
theorem dX7_law_13 : decode cX7_law 13 = .ok (.ireturn, 1) := by decide +kernel
theorem dX7_law_14 : decode cX7_law 14 = .ok (.aload_n 0, 1) := by decide +kernel
theorem dX7_law_15 : decode cX7_law 15 = .ok (.iconst 0, 1) := by decide +kernel
theorem dX7_law_16 : decode cX7_law 16 = .ok (.putfield 88, 3) := by decide +kernel
theorem dX7_law_19 : decode cX7_law 19 = .ok (.aload_n 0, 1) := by decide +kernel
theorem dX7_law_20 : decode cX7_law 20 = .ok (.iload_n 1, 1) := by decide +kernel
theorem dX7_law_21 : decode cX7_law 21 = .ok (.invokevirtual 111, 3) := by decide +kernel
theorem dX7_law_24 : decode cX7_law 24 = .ok (.istore_n 2, 1) := by decide +kernel
theorem dX7_law_25 : decode cX7_law 25 = .ok (.iconst 0, 1) := by decide +kernel
theorem dX7_law_26 : decode cX7_law 26 = .ok (.istore_n 3, 1) := by decide +kernel
theorem dX7_law_27 : decode cX7_law 27 = .ok (.iload_n 3, 1) := by decide +kernel
theorem dX7_law_28 : decode cX7_law 28 = .ok (.bipush 6, 2) := by decide +kernel
theorem dX7_law_30 : decode cX7_law 30 = .ok (.if_icmp .ge 25, 3) := by decide +kernel
theorem dX7_law_33 : decode cX7_law 33 = .ok (.iload_n 2, 1) := by decide +kernel
theorem dX7_law_34 : decode cX7_law 34 = .ok (.ifCond .ne 21, 3) := by decide +kernel
theorem dX7_law_37 : decode cX7_law 37 = .ok (.aload_n 0, 1) := by decide +kernel
theorem dX7_law_38 : decode cX7_law 38 = .ok (.getfield 17, 3) := by decide +kernel
theorem dX7_law_41 : decode cX7_law 41 = .ok (.iload_n 3, 1) := by decide +kernel
theorem dX7_law_42 : decode cX7_law 42 = .ok (.aload_n 0, 1) := by decide +kernel
theorem dX7_law_43 : decode cX7_law 43 = .ok (.getfield 21, 3) := by decide +kernel
theorem dX7_law_46 : decode cX7_law 46 = .ok (.iload_n 3, 1) := by decide +kernel
theorem dX7_law_47 : decode cX7_law 47 = .ok (.iaload, 1) := by decide +kernel
theorem dX7_law_48 : decode cX7_law 48 = .ok (.iastore, 1) := by decide +kernel
theorem dX7_law_49 : decode cX7_law 49 = .ok (.iinc 3 1, 3) := by decide +kernel
theorem dX7_law_52 : decode cX7_law 52 = .ok (.goto (-25), 3) := by decide +kernel
theorem dX7_law_55 : decode cX7_law 55 = .ok (.iload_n 2, 1) := by decide +kernel
theorem dX7_law_56 : decode cX7_law 56 = .ok (.ireturn, 1) := by decide +kernel
set_option maxRecDepth 20000 in
theorem ggX7_trough_X7_lies : GoodIn wsX7_trough wsX7_lies := goodIn_r _ [5] (by decide +kernel) (by decide +kernel)
set_option maxRecDepth 20000 in
theorem gX7_trough_X7_lies : GoodIn wsX7_trough (va_wsS RX7 95 yX7_lies wsX7_lies) := goodIn_app (goodIn_of _ (by decide +kernel)) ggX7_trough_X7_lies
theorem dX7_trough_0 : decode cX7_trough 0 = .ok (.iload_n 1, 1) := by decide +kernel
theorem dX7_trough_1 : decode cX7_trough 1 = .ok (.bipush 10, 2) := by decide +kernel
theorem dX7_trough_3 : decode cX7_trough 3 = .ok (.sipush 200, 3) := by decide +kernel
theorem dX7_trough_6 : decode cX7_trough 6 = .ok (.invokestatic 95, 3) := by decide +kernel
theorem dX7_trough_9 : decode cX7_trough 9 = .ok (.ifCond .ne 5, 3) := by decide +kernel
theorem dX7_trough_12 : decode cX7_trough 12 = .ok (.iconst 0, 1) := by decide +kernel
theorem dX7_trough_13 : decode cX7_trough 13 = .ok (.ireturn, 1) := by decide +kernel
theorem dX7_trough_14 : decode cX7_trough 14 = .ok (.aload_n 0, 1) := by decide +kernel
theorem dX7_trough_15 : decode cX7_trough 15 = .ok (.iload_n 1, 1) := by decide +kernel
theorem dX7_trough_16 : decode cX7_trough 16 = .ok (.putfield 13, 3) := by decide +kernel
theorem dX7_trough_19 : decode cX7_trough 19 = .ok (.iconst 1, 1) := by decide +kernel
theorem dX7_trough_20 : decode cX7_trough 20 = .ok (.ireturn, 1) := by decide +kernel
set_option maxRecDepth 20000 in
theorem ggX7_isSide_X7_lies : GoodIn wsX7_isSide wsX7_lies := goodIn_r _ [4] (by decide +kernel) (by decide +kernel)
set_option maxRecDepth 20000 in
theorem gX7_isSide_X7_lies : GoodIn wsX7_isSide (va_wsS RX7 95 yX7_lies wsX7_lies) := goodIn_app (goodIn_of _ (by decide +kernel)) ggX7_isSide_X7_lies
theorem dX7_isSide_0 : decode cX7_isSide 0 = .ok (.iload_n 0, 1) := by decide +kernel
theorem dX7_isSide_1 : decode cX7_isSide 1 = .ok (.iconst 0, 1) := by decide +kernel
theorem dX7_isSide_2 : decode cX7_isSide 2 = .ok (.iconst 1, 1) := by decide +kernel
theorem dX7_isSide_3 : decode cX7_isSide 3 = .ok (.invokestatic 95, 3) := by decide +kernel
theorem dX7_isSide_6 : decode cX7_isSide 6 = .ok (.ireturn, 1) := by decide +kernel
set_option maxRecDepth 20000 in
theorem ggX7_area_X7_isSide : GoodIn wsX7_area wsX7_isSide := goodIn_r _ [5, 6, 7, 4, 8] (by decide +kernel) (by decide +kernel)
set_option maxRecDepth 20000 in
theorem gX7_area_X7_isSide : GoodIn wsX7_area (va_wsS RX7 114 yX7_isSide wsX7_isSide) := goodIn_app (goodIn_of _ (by decide +kernel)) ggX7_area_X7_isSide
set_option maxRecDepth 20000 in
theorem ggX7_area_X7_lies : GoodIn wsX7_area wsX7_lies := goodIn_r _ [8] (by decide +kernel) (by decide +kernel)
set_option maxRecDepth 20000 in
theorem gX7_area_X7_lies : GoodIn wsX7_area (va_wsS RX7 95 yX7_lies wsX7_lies) := goodIn_app (goodIn_of _ (by decide +kernel)) ggX7_area_X7_lies
theorem dX7_area_0 : decode cX7_area 0 = .ok (.iload_n 1, 1) := by decide +kernel
theorem dX7_area_1 : decode cX7_area 1 = .ok (.invokestatic 114, 3) := by decide +kernel
theorem dX7_area_4 : decode cX7_area 4 = .ok (.ifCond .eq 14, 3) := by decide +kernel
theorem dX7_area_7 : decode cX7_area 7 = .ok (.iload_n 2, 1) := by decide +kernel
theorem dX7_area_8 : decode cX7_area 8 = .ok (.iconst 1, 1) := by decide +kernel
theorem dX7_area_9 : decode cX7_area 9 = .ok (.sipush 10000, 3) := by decide +kernel
theorem dX7_area_12 : decode cX7_area 12 = .ok (.invokestatic 95, 3) := by decide +kernel
theorem dX7_area_15 : decode cX7_area 15 = .ok (.ifCond .ne 5, 3) := by decide +kernel
theorem dX7_area_18 : decode cX7_area 18 = .ok (.iconst 0, 1) := by decide +kernel
theorem dX7_area_19 : decode cX7_area 19 = .ok (.ireturn, 1) := by decide +kernel
theorem dX7_area_20 : decode cX7_area 20 = .ok (.aload_n 0, 1) := by decide +kernel
theorem dX7_area_21 : decode cX7_area 21 = .ok (.getfield 24, 3) := by decide +kernel
theorem dX7_area_24 : decode cX7_area 24 = .ok (.iload_n 1, 1) := by decide +kernel
theorem dX7_area_25 : decode cX7_area 25 = .ok (.iload_n 2, 1) := by decide +kernel
theorem dX7_area_26 : decode cX7_area 26 = .ok (.iastore, 1) := by decide +kernel
theorem dX7_area_27 : decode cX7_area 27 = .ok (.iconst 1, 1) := by decide +kernel
theorem dX7_area_28 : decode cX7_area 28 = .ok (.ireturn, 1) := by decide +kernel
set_option maxRecDepth 20000 in
theorem ggX7_flow_X7_isSide : GoodIn wsX7_flow wsX7_isSide := goodIn_r _ [7, 8, 9, 6, 10] (by decide +kernel) (by decide +kernel)
set_option maxRecDepth 20000 in
theorem gX7_flow_X7_isSide : GoodIn wsX7_flow (va_wsS RX7 114 yX7_isSide wsX7_isSide) := goodIn_app (goodIn_of _ (by decide +kernel)) ggX7_flow_X7_isSide
set_option maxRecDepth 20000 in
theorem ggX7_flow_X7_lies : GoodIn wsX7_flow wsX7_lies := goodIn_r _ [10] (by decide +kernel) (by decide +kernel)
set_option maxRecDepth 20000 in
theorem gX7_flow_X7_lies : GoodIn wsX7_flow (va_wsS RX7 95 yX7_lies wsX7_lies) := goodIn_app (goodIn_of _ (by decide +kernel)) ggX7_flow_X7_lies
theorem dX7_flow_0 : decode cX7_flow 0 = .ok (.iload_n 1, 1) := by decide +kernel
theorem dX7_flow_1 : decode cX7_flow 1 = .ok (.invokestatic 114, 3) := by decide +kernel
theorem dX7_flow_4 : decode cX7_flow 4 = .ok (.ifCond .eq 14, 3) := by decide +kernel
theorem dX7_flow_7 : decode cX7_flow 7 = .ok (.iload_n 2, 1) := by decide +kernel
theorem dX7_flow_8 : decode cX7_flow 8 = .ok (.ldc 118, 2) := by decide +kernel
theorem dX7_flow_10 : decode cX7_flow 10 = .ok (.ldc 119, 2) := by decide +kernel
theorem dX7_flow_12 : decode cX7_flow 12 = .ok (.invokestatic 95, 3) := by decide +kernel
theorem dX7_flow_15 : decode cX7_flow 15 = .ok (.ifCond .ne 5, 3) := by decide +kernel
theorem dX7_flow_18 : decode cX7_flow 18 = .ok (.iconst 0, 1) := by decide +kernel
theorem dX7_flow_19 : decode cX7_flow 19 = .ok (.ireturn, 1) := by decide +kernel
theorem dX7_flow_20 : decode cX7_flow 20 = .ok (.aload_n 0, 1) := by decide +kernel
theorem dX7_flow_21 : decode cX7_flow 21 = .ok (.getfield 27, 3) := by decide +kernel
theorem dX7_flow_24 : decode cX7_flow 24 = .ok (.iload_n 1, 1) := by decide +kernel
theorem dX7_flow_25 : decode cX7_flow 25 = .ok (.dup2, 1) := by decide +kernel
theorem dX7_flow_26 : decode cX7_flow 26 = .ok (.laload, 1) := by decide +kernel
theorem dX7_flow_27 : decode cX7_flow 27 = .ok (.iload_n 2, 1) := by decide +kernel
theorem dX7_flow_28 : decode cX7_flow 28 = .ok (.i2l, 1) := by decide +kernel
theorem dX7_flow_29 : decode cX7_flow 29 = .ok (.ladd, 1) := by decide +kernel
theorem dX7_flow_30 : decode cX7_flow 30 = .ok (.lastore, 1) := by decide +kernel
theorem dX7_flow_31 : decode cX7_flow 31 = .ok (.iconst 1, 1) := by decide +kernel
theorem dX7_flow_32 : decode cX7_flow 32 = .ok (.ireturn, 1) := by decide +kernel
set_option maxRecDepth 20000 in
theorem ggX7_ice_X7_lies : GoodIn wsX7_ice wsX7_lies := goodIn_r _ [7] (by decide +kernel) (by decide +kernel)
set_option maxRecDepth 20000 in
theorem gX7_ice_X7_lies : GoodIn wsX7_ice (va_wsS RX7 95 yX7_lies wsX7_lies) := goodIn_app (goodIn_of _ (by decide +kernel)) ggX7_ice_X7_lies
theorem dX7_ice_0 : decode cX7_ice 0 = .ok (.iload_n 1, 1) := by decide +kernel
theorem dX7_ice_1 : decode cX7_ice 1 = .ok (.iconst 0, 1) := by decide +kernel
theorem dX7_ice_2 : decode cX7_ice 2 = .ok (.sipush 20000, 3) := by decide +kernel
theorem dX7_ice_5 : decode cX7_ice 5 = .ok (.invokestatic 95, 3) := by decide +kernel
theorem dX7_ice_8 : decode cX7_ice 8 = .ok (.ifCond .eq 28, 3) := by decide +kernel
theorem dX7_ice_11 : decode cX7_ice 11 = .ok (.iload_n 2, 1) := by decide +kernel
theorem dX7_ice_12 : decode cX7_ice 12 = .ok (.iconst 0, 1) := by decide +kernel
theorem dX7_ice_13 : decode cX7_ice 13 = .ok (.sipush 20000, 3) := by decide +kernel
theorem dX7_ice_16 : decode cX7_ice 16 = .ok (.invokestatic 95, 3) := by decide +kernel
theorem dX7_ice_19 : decode cX7_ice 19 = .ok (.ifCond .eq 17, 3) := by decide +kernel
theorem dX7_ice_22 : decode cX7_ice 22 = .ok (.iload_n 1, 1) := by decide +kernel
theorem dX7_ice_23 : decode cX7_ice 23 = .ok (.iload_n 2, 1) := by decide +kernel
theorem dX7_ice_24 : decode cX7_ice 24 = .ok (.if_icmp .ge 12, 3) := by decide +kernel
theorem dX7_ice_27 : decode cX7_ice 27 = .ok (.aload_n 0, 1) := by decide +kernel
theorem dX7_ice_28 : decode cX7_ice 28 = .ok (.getfield 120, 3) := by decide +kernel
theorem dX7_ice_31 : decode cX7_ice 31 = .ok (.bipush 8, 2) := by decide +kernel
theorem dX7_ice_33 : decode cX7_ice 33 = .ok (.if_icmp .ne 5, 3) := by decide +kernel
theorem dX7_ice_36 : decode cX7_ice 36 = .ok (.iconst 0, 1) := by decide +kernel
theorem dX7_ice_37 : decode cX7_ice 37 = .ok (.ireturn, 1) := by decide +kernel
theorem dX7_ice_38 : decode cX7_ice 38 = .ok (.aload_n 0, 1) := by decide +kernel
theorem dX7_ice_39 : decode cX7_ice 39 = .ok (.getfield 31, 3) := by decide +kernel
theorem dX7_ice_42 : decode cX7_ice 42 = .ok (.aload_n 0, 1) := by decide +kernel
theorem dX7_ice_43 : decode cX7_ice 43 = .ok (.getfield 120, 3) := by decide +kernel
theorem dX7_ice_46 : decode cX7_ice 46 = .ok (.iload_n 1, 1) := by decide +kernel
theorem dX7_ice_47 : decode cX7_ice 47 = .ok (.iastore, 1) := by decide +kernel
theorem dX7_ice_48 : decode cX7_ice 48 = .ok (.aload_n 0, 1) := by decide +kernel
theorem dX7_ice_49 : decode cX7_ice 49 = .ok (.getfield 34, 3) := by decide +kernel
theorem dX7_ice_52 : decode cX7_ice 52 = .ok (.aload_n 0, 1) := by decide +kernel
theorem dX7_ice_53 : decode cX7_ice 53 = .ok (.getfield 120, 3) := by decide +kernel
theorem dX7_ice_56 : decode cX7_ice 56 = .ok (.iload_n 2, 1) := by decide +kernel
theorem dX7_ice_57 : decode cX7_ice 57 = .ok (.iastore, 1) := by decide +kernel
theorem dX7_ice_58 : decode cX7_ice 58 = .ok (.aload_n 0, 1) := by decide +kernel
theorem dX7_ice_59 : decode cX7_ice 59 = .ok (.dup, 1) := by decide +kernel
theorem dX7_ice_60 : decode cX7_ice 60 = .ok (.getfield 120, 3) := by decide +kernel
theorem dX7_ice_63 : decode cX7_ice 63 = .ok (.iconst 1, 1) := by decide +kernel
theorem dX7_ice_64 : decode cX7_ice 64 = .ok (.iadd, 1) := by decide +kernel
theorem dX7_ice_65 : decode cX7_ice 65 = .ok (.putfield 120, 3) := by decide +kernel
theorem dX7_ice_68 : decode cX7_ice 68 = .ok (.iconst 1, 1) := by decide +kernel
theorem dX7_ice_69 : decode cX7_ice 69 = .ok (.ireturn, 1) := by decide +kernel
theorem dX7_isIce_0 : decode cX7_isIce 0 = .ok (.iconst 0, 1) := by decide +kernel
theorem dX7_isIce_1 : decode cX7_isIce 1 = .ok (.istore_n 2, 1) := by decide +kernel
theorem dX7_isIce_2 : decode cX7_isIce 2 = .ok (.iload_n 2, 1) := by decide +kernel
theorem dX7_isIce_3 : decode cX7_isIce 3 = .ok (.aload_n 0, 1) := by decide +kernel
theorem dX7_isIce_4 : decode cX7_isIce 4 = .ok (.getfield 120, 3) := by decide +kernel
theorem dX7_isIce_7 : decode cX7_isIce 7 = .ok (.if_icmp .ge 31, 3) := by decide +kernel
theorem dX7_isIce_10 : decode cX7_isIce 10 = .ok (.iload_n 1, 1) := by decide +kernel
theorem dX7_isIce_11 : decode cX7_isIce 11 = .ok (.aload_n 0, 1) := by decide +kernel
theorem dX7_isIce_12 : decode cX7_isIce 12 = .ok (.getfield 31, 3) := by decide +kernel
theorem dX7_isIce_15 : decode cX7_isIce 15 = .ok (.iload_n 2, 1) := by decide +kernel
theorem dX7_isIce_16 : decode cX7_isIce 16 = .ok (.iaload, 1) := by decide +kernel
theorem dX7_isIce_17 : decode cX7_isIce 17 = .ok (.if_icmp .lt 15, 3) := by decide +kernel
theorem dX7_isIce_20 : decode cX7_isIce 20 = .ok (.iload_n 1, 1) := by decide +kernel
theorem dX7_isIce_21 : decode cX7_isIce 21 = .ok (.aload_n 0, 1) := by decide +kernel
theorem dX7_isIce_22 : decode cX7_isIce 22 = .ok (.getfield 34, 3) := by decide +kernel
theorem dX7_isIce_25 : decode cX7_isIce 25 = .ok (.iload_n 2, 1) := by decide +kernel
theorem dX7_isIce_26 : decode cX7_isIce 26 = .ok (.iaload, 1) := by decide +kernel
theorem dX7_isIce_27 : decode cX7_isIce 27 = .ok (.if_icmp .ge 5, 3) := by decide +kernel
theorem dX7_isIce_30 : decode cX7_isIce 30 = .ok (.iconst 1, 1) := by decide +kernel
theorem dX7_isIce_31 : decode cX7_isIce 31 = .ok (.ireturn, 1) := by decide +kernel
theorem dX7_isIce_32 : decode cX7_isIce 32 = .ok (.iinc 2 1, 3) := by decide +kernel
theorem dX7_isIce_35 : decode cX7_isIce 35 = .ok (.goto (-33), 3) := by decide +kernel
theorem dX7_isIce_38 : decode cX7_isIce 38 = .ok (.iconst 0, 1) := by decide +kernel
theorem dX7_isIce_39 : decode cX7_isIce 39 = .ok (.ireturn, 1) := by decide +kernel
set_option maxRecDepth 20000 in
theorem ggX7_lasts_X7_isIce : GoodIn wsX7_lasts wsX7_isIce := goodIn_r _ [6, 7, 8, 9, 10, 11, 12, 13, 14, 15, 16, 17, 18, 19, 20, 21, 22, 23, 24, 25, 26, 27, 28, 29, 30, 31, 32, 33, 34, 35, 36, 37, 38, 39, 40, 41, 42, 43, 44, 45] (by decide +kernel) (by decide +kernel)
set_option maxRecDepth 20000 in
theorem gX7_lasts_X7_isIce : GoodIn wsX7_lasts (wsV RX7 123 RX7 yX7_isIce wsX7_isIce) := goodIn_app (goodIn_of _ (by decide +kernel)) ggX7_lasts_X7_isIce
theorem dX7_lasts_0 : decode cX7_lasts 0 = .ok (.aload_n 0, 1) := by decide +kernel
theorem dX7_lasts_1 : decode cX7_lasts 1 = .ok (.getfield 17, 3) := by decide +kernel
theorem dX7_lasts_4 : decode cX7_lasts 4 = .ok (.iconst 0, 1) := by decide +kernel
theorem dX7_lasts_5 : decode cX7_lasts 5 = .ok (.iaload, 1) := by decide +kernel
theorem dX7_lasts_6 : decode cX7_lasts 6 = .ok (.iconst 2, 1) := by decide +kernel
theorem dX7_lasts_7 : decode cX7_lasts 7 = .ok (.aload_n 0, 1) := by decide +kernel
theorem dX7_lasts_8 : decode cX7_lasts 8 = .ok (.getfield 17, 3) := by decide +kernel
theorem dX7_lasts_11 : decode cX7_lasts 11 = .ok (.iconst 1, 1) := by decide +kernel
theorem dX7_lasts_12 : decode cX7_lasts 12 = .ok (.iaload, 1) := by decide +kernel
theorem dX7_lasts_13 : decode cX7_lasts 13 = .ok (.imul, 1) := by decide +kernel
theorem dX7_lasts_14 : decode cX7_lasts 14 = .ok (.iadd, 1) := by decide +kernel
theorem dX7_lasts_15 : decode cX7_lasts 15 = .ok (.aload_n 0, 1) := by decide +kernel
theorem dX7_lasts_16 : decode cX7_lasts 16 = .ok (.iload_n 1, 1) := by decide +kernel
theorem dX7_lasts_17 : decode cX7_lasts 17 = .ok (.invokevirtual 123, 3) := by decide +kernel
theorem dX7_lasts_20 : decode cX7_lasts 20 = .ok (.ifCond .eq 12, 3) := by decide +kernel
theorem dX7_lasts_23 : decode cX7_lasts 23 = .ok (.aload_n 0, 1) := by decide +kernel
theorem dX7_lasts_24 : decode cX7_lasts 24 = .ok (.getfield 17, 3) := by decide +kernel
theorem dX7_lasts_27 : decode cX7_lasts 27 = .ok (.iconst 2, 1) := by decide +kernel
theorem dX7_lasts_28 : decode cX7_lasts 28 = .ok (.iaload, 1) := by decide +kernel
theorem dX7_lasts_29 : decode cX7_lasts 29 = .ok (.goto 4, 3) := by decide +kernel
theorem dX7_lasts_32 : decode cX7_lasts 32 = .ok (.iconst 0, 1) := by decide +kernel
theorem dX7_lasts_33 : decode cX7_lasts 33 = .ok (.iadd, 1) := by decide +kernel
theorem dX7_lasts_34 : decode cX7_lasts 34 = .ok (.ireturn, 1) := by decide +kernel
set_option maxRecDepth 20000 in
theorem ggX7_boat_X7_isSide : GoodIn wsX7_boat wsX7_isSide := goodIn_r _ [12, 13, 14, 11, 15] (by decide +kernel) (by decide +kernel)
set_option maxRecDepth 20000 in
theorem gX7_boat_X7_isSide : GoodIn wsX7_boat (va_wsS RX7 114 yX7_isSide wsX7_isSide) := goodIn_app (goodIn_of _ (by decide +kernel)) ggX7_boat_X7_isSide
set_option maxRecDepth 20000 in
theorem ggX7_boat_X7_lies : GoodIn wsX7_boat wsX7_lies := goodIn_r _ [15] (by decide +kernel) (by decide +kernel)
set_option maxRecDepth 20000 in
theorem gX7_boat_X7_lies : GoodIn wsX7_boat (va_wsS RX7 95 yX7_lies wsX7_lies) := goodIn_app (goodIn_of _ (by decide +kernel)) ggX7_boat_X7_lies
theorem dX7_boat_0 : decode cX7_boat 0 = .ok (.iload_n 1, 1) := by decide +kernel
theorem dX7_boat_1 : decode cX7_boat 1 = .ok (.invokestatic 114, 3) := by decide +kernel
theorem dX7_boat_4 : decode cX7_boat 4 = .ok (.ifCond .eq 66, 3) := by decide +kernel
theorem dX7_boat_7 : decode cX7_boat 7 = .ok (.iload_n 2, 1) := by decide +kernel
theorem dX7_boat_8 : decode cX7_boat 8 = .ok (.iconst 0, 1) := by decide +kernel
theorem dX7_boat_9 : decode cX7_boat 9 = .ok (.sipush 20000, 3) := by decide +kernel
theorem dX7_boat_12 : decode cX7_boat 12 = .ok (.invokestatic 95, 3) := by decide +kernel
theorem dX7_boat_15 : decode cX7_boat 15 = .ok (.ifCond .eq 55, 3) := by decide +kernel
theorem dX7_boat_18 : decode cX7_boat 18 = .ok (.iload_n 3, 1) := by decide +kernel
theorem dX7_boat_19 : decode cX7_boat 19 = .ok (.iconst 1, 1) := by decide +kernel
theorem dX7_boat_20 : decode cX7_boat 20 = .ok (.bipush 100, 2) := by decide +kernel
theorem dX7_boat_22 : decode cX7_boat 22 = .ok (.invokestatic 95, 3) := by decide +kernel
theorem dX7_boat_25 : decode cX7_boat 25 = .ok (.ifCond .eq 45, 3) := by decide +kernel
theorem dX7_boat_28 : decode cX7_boat 28 = .ok (.iload 4, 2) := by decide +kernel
theorem dX7_boat_30 : decode cX7_boat 30 = .ok (.iconst 1, 1) := by decide +kernel
theorem dX7_boat_31 : decode cX7_boat 31 = .ok (.bipush 40, 2) := by decide +kernel
theorem dX7_boat_33 : decode cX7_boat 33 = .ok (.invokestatic 95, 3) := by decide +kernel
theorem dX7_boat_36 : decode cX7_boat 36 = .ok (.ifCond .eq 34, 3) := by decide +kernel
theorem dX7_boat_39 : decode cX7_boat 39 = .ok (.iload 5, 2) := by decide +kernel
theorem dX7_boat_41 : decode cX7_boat 41 = .ok (.iconst 1, 1) := by decide +kernel
theorem dX7_boat_42 : decode cX7_boat 42 = .ok (.sipush 2000, 3) := by decide +kernel
theorem dX7_boat_45 : decode cX7_boat 45 = .ok (.invokestatic 95, 3) := by decide +kernel
theorem dX7_boat_48 : decode cX7_boat 48 = .ok (.ifCond .eq 22, 3) := by decide +kernel
theorem dX7_boat_51 : decode cX7_boat 51 = .ok (.iload 6, 2) := by decide +kernel
theorem dX7_boat_53 : decode cX7_boat 53 = .ok (.iconst 0, 1) := by decide +kernel
theorem dX7_boat_54 : decode cX7_boat 54 = .ok (.iconst 3, 1) := by decide +kernel
theorem dX7_boat_55 : decode cX7_boat 55 = .ok (.invokestatic 95, 3) := by decide +kernel
theorem dX7_boat_58 : decode cX7_boat 58 = .ok (.ifCond .eq 12, 3) := by decide +kernel
theorem dX7_boat_61 : decode cX7_boat 61 = .ok (.aload_n 0, 1) := by decide +kernel
theorem dX7_boat_62 : decode cX7_boat 62 = .ok (.getfield 126, 3) := by decide +kernel
theorem dX7_boat_65 : decode cX7_boat 65 = .ok (.bipush 16, 2) := by decide +kernel
theorem dX7_boat_67 : decode cX7_boat 67 = .ok (.if_icmp .ne 5, 3) := by decide +kernel
theorem dX7_boat_70 : decode cX7_boat 70 = .ok (.iconst (-1), 1) := by decide +kernel
theorem dX7_boat_71 : decode cX7_boat 71 = .ok (.ireturn, 1) := by decide +kernel
theorem dX7_boat_72 : decode cX7_boat 72 = .ok (.aload_n 0, 1) := by decide +kernel
theorem dX7_boat_73 : decode cX7_boat 73 = .ok (.getfield 37, 3) := by decide +kernel
theorem dX7_boat_76 : decode cX7_boat 76 = .ok (.aload_n 0, 1) := by decide +kernel
theorem dX7_boat_77 : decode cX7_boat 77 = .ok (.getfield 126, 3) := by decide +kernel
theorem dX7_boat_80 : decode cX7_boat 80 = .ok (.iload_n 1, 1) := by decide +kernel
theorem dX7_boat_81 : decode cX7_boat 81 = .ok (.iastore, 1) := by decide +kernel
theorem dX7_boat_82 : decode cX7_boat 82 = .ok (.aload_n 0, 1) := by decide +kernel
theorem dX7_boat_83 : decode cX7_boat 83 = .ok (.getfield 40, 3) := by decide +kernel
theorem dX7_boat_86 : decode cX7_boat 86 = .ok (.aload_n 0, 1) := by decide +kernel
theorem dX7_boat_87 : decode cX7_boat 87 = .ok (.getfield 126, 3) := by decide +kernel
theorem dX7_boat_90 : decode cX7_boat 90 = .ok (.iload_n 2, 1) := by decide +kernel
theorem dX7_boat_91 : decode cX7_boat 91 = .ok (.iastore, 1) := by decide +kernel
theorem dX7_boat_92 : decode cX7_boat 92 = .ok (.aload_n 0, 1) := by decide +kernel
theorem dX7_boat_93 : decode cX7_boat 93 = .ok (.getfield 43, 3) := by decide +kernel
theorem dX7_boat_96 : decode cX7_boat 96 = .ok (.aload_n 0, 1) := by decide +kernel
theorem dX7_boat_97 : decode cX7_boat 97 = .ok (.getfield 126, 3) := by decide +kernel
theorem dX7_boat_100 : decode cX7_boat 100 = .ok (.iload_n 3, 1) := by decide +kernel
theorem dX7_boat_101 : decode cX7_boat 101 = .ok (.iastore, 1) := by decide +kernel
theorem dX7_boat_102 : decode cX7_boat 102 = .ok (.aload_n 0, 1) := by decide +kernel
theorem dX7_boat_103 : decode cX7_boat 103 = .ok (.getfield 46, 3) := by decide +kernel
theorem dX7_boat_106 : decode cX7_boat 106 = .ok (.aload_n 0, 1) := by decide +kernel
theorem dX7_boat_107 : decode cX7_boat 107 = .ok (.getfield 126, 3) := by decide +kernel
theorem dX7_boat_110 : decode cX7_boat 110 = .ok (.iload 4, 2) := by decide +kernel
theorem dX7_boat_112 : decode cX7_boat 112 = .ok (.iastore, 1) := by decide +kernel
theorem dX7_boat_113 : decode cX7_boat 113 = .ok (.aload_n 0, 1) := by decide +kernel
theorem dX7_boat_114 : decode cX7_boat 114 = .ok (.getfield 49, 3) := by decide +kernel
theorem dX7_boat_117 : decode cX7_boat 117 = .ok (.aload_n 0, 1) := by decide +kernel
theorem dX7_boat_118 : decode cX7_boat 118 = .ok (.getfield 126, 3) := by decide +kernel
theorem dX7_boat_121 : decode cX7_boat 121 = .ok (.iload 5, 2) := by decide +kernel
theorem dX7_boat_123 : decode cX7_boat 123 = .ok (.iastore, 1) := by decide +kernel
theorem dX7_boat_124 : decode cX7_boat 124 = .ok (.aload_n 0, 1) := by decide +kernel
theorem dX7_boat_125 : decode cX7_boat 125 = .ok (.getfield 52, 3) := by decide +kernel
theorem dX7_boat_128 : decode cX7_boat 128 = .ok (.aload_n 0, 1) := by decide +kernel
theorem dX7_boat_129 : decode cX7_boat 129 = .ok (.getfield 126, 3) := by decide +kernel
theorem dX7_boat_132 : decode cX7_boat 132 = .ok (.iload 6, 2) := by decide +kernel
theorem dX7_boat_134 : decode cX7_boat 134 = .ok (.iastore, 1) := by decide +kernel
theorem dX7_boat_135 : decode cX7_boat 135 = .ok (.aload_n 0, 1) := by decide +kernel
theorem dX7_boat_136 : decode cX7_boat 136 = .ok (.getfield 55, 3) := by decide +kernel
theorem dX7_boat_139 : decode cX7_boat 139 = .ok (.aload_n 0, 1) := by decide +kernel
theorem dX7_boat_140 : decode cX7_boat 140 = .ok (.getfield 126, 3) := by decide +kernel
theorem dX7_boat_143 : decode cX7_boat 143 = .ok (.iconst (-1), 1) := by decide +kernel
theorem dX7_boat_144 : decode cX7_boat 144 = .ok (.iastore, 1) := by decide +kernel
theorem dX7_boat_145 : decode cX7_boat 145 = .ok (.aload_n 0, 1) := by decide +kernel
theorem dX7_boat_146 : decode cX7_boat 146 = .ok (.dup, 1) := by decide +kernel
theorem dX7_boat_147 : decode cX7_boat 147 = .ok (.getfield 126, 3) := by decide +kernel
theorem dX7_boat_150 : decode cX7_boat 150 = .ok (.iconst 1, 1) := by decide +kernel
theorem dX7_boat_151 : decode cX7_boat 151 = .ok (.iadd, 1) := by decide +kernel
theorem dX7_boat_152 : decode cX7_boat 152 = .ok (.putfield 126, 3) := by decide +kernel
theorem dX7_boat_155 : decode cX7_boat 155 = .ok (.aload_n 0, 1) := by decide +kernel
theorem dX7_boat_156 : decode cX7_boat 156 = .ok (.getfield 126, 3) := by decide +kernel
theorem dX7_boat_159 : decode cX7_boat 159 = .ok (.iconst 1, 1) := by decide +kernel
theorem dX7_boat_160 : decode cX7_boat 160 = .ok (.isub, 1) := by decide +kernel
theorem dX7_boat_161 : decode cX7_boat 161 = .ok (.ireturn, 1) := by decide +kernel
theorem dX7_down_0 : decode cX7_down 0 = .ok (.lload_n 0, 1) := by decide +kernel
theorem dX7_down_1 : decode cX7_down 1 = .ok (.lconst 0, 1) := by decide +kernel
theorem dX7_down_2 : decode cX7_down 2 = .ok (.lcmp, 1) := by decide +kernel
theorem dX7_down_3 : decode cX7_down 3 = .ok (.ifCond .ge 15, 3) := by decide +kernel
theorem dX7_down_6 : decode cX7_down 6 = .ok (.lload_n 0, 1) := by decide +kernel
theorem dX7_down_7 : decode cX7_down 7 = .ok (.lneg, 1) := by decide +kernel
theorem dX7_down_8 : decode cX7_down 8 = .ok (.lload_n 2, 1) := by decide +kernel
theorem dX7_down_9 : decode cX7_down 9 = .ok (.ladd, 1) := by decide +kernel
theorem dX7_down_10 : decode cX7_down 10 = .ok (.lconst 1, 1) := by decide +kernel
theorem dX7_down_11 : decode cX7_down 11 = .ok (.lsub, 1) := by decide +kernel
theorem dX7_down_12 : decode cX7_down 12 = .ok (.lload_n 2, 1) := by decide +kernel
theorem dX7_down_13 : decode cX7_down 13 = .ok (.ldiv, 1) := by decide +kernel
theorem dX7_down_14 : decode cX7_down 14 = .ok (.lneg, 1) := by decide +kernel
theorem dX7_down_15 : decode cX7_down 15 = .ok (.goto 6, 3) := by decide +kernel
theorem dX7_down_18 : decode cX7_down 18 = .ok (.lload_n 0, 1) := by decide +kernel
theorem dX7_down_19 : decode cX7_down 19 = .ok (.lload_n 2, 1) := by decide +kernel
theorem dX7_down_20 : decode cX7_down 20 = .ok (.ldiv, 1) := by decide +kernel
theorem dX7_down_21 : decode cX7_down 21 = .ok (.lreturn, 1) := by decide +kernel
set_option maxRecDepth 20000 in
theorem ggX7_levelOf_X7_down : GoodIn wsX7_levelOf wsX7_down := goodIn_r _ [6] (by decide +kernel) (by decide +kernel)
set_option maxRecDepth 20000 in
theorem gX7_levelOf_X7_down : GoodIn wsX7_levelOf (va_wsS RX7 129 yX7_down wsX7_down) := goodIn_app (goodIn_of _ (by decide +kernel)) ggX7_levelOf_X7_down
theorem dX7_levelOf_0 : decode cX7_levelOf 0 = .ok (.aload_n 0, 1) := by decide +kernel
theorem dX7_levelOf_1 : decode cX7_levelOf 1 = .ok (.getfield 27, 3) := by decide +kernel
theorem dX7_levelOf_4 : decode cX7_levelOf 4 = .ok (.iload_n 1, 1) := by decide +kernel
theorem dX7_levelOf_5 : decode cX7_levelOf 5 = .ok (.laload, 1) := by decide +kernel
theorem dX7_levelOf_6 : decode cX7_levelOf 6 = .ok (.aload_n 0, 1) := by decide +kernel
theorem dX7_levelOf_7 : decode cX7_levelOf 7 = .ok (.getfield 24, 3) := by decide +kernel
theorem dX7_levelOf_10 : decode cX7_levelOf 10 = .ok (.iload_n 1, 1) := by decide +kernel
theorem dX7_levelOf_11 : decode cX7_levelOf 11 = .ok (.iaload, 1) := by decide +kernel
theorem dX7_levelOf_12 : decode cX7_levelOf 12 = .ok (.i2l, 1) := by decide +kernel
theorem dX7_levelOf_13 : decode cX7_levelOf 13 = .ok (.invokestatic 129, 3) := by decide +kernel
theorem dX7_levelOf_16 : decode cX7_levelOf 16 = .ok (.l2i, 1) := by decide +kernel
theorem dX7_levelOf_17 : decode cX7_levelOf 17 = .ok (.ireturn, 1) := by decide +kernel
set_option maxRecDepth 20000 in
theorem ggX7_depthOf_X7_levelOf : GoodIn wsX7_depthOf wsX7_levelOf := goodIn_r _ [6, 7, 8, 9, 10, 5, 11, 12, 13, 14, 15, 16, 17, 18, 19, 20, 21, 22, 23, 24, 25, 26, 27, 28, 29, 30, 31, 32, 33, 34, 35, 36, 37, 38, 39, 40, 41, 42, 43, 44, 45, 46, 47] (by decide +kernel) (by decide +kernel)
set_option maxRecDepth 20000 in
theorem gX7_depthOf_X7_levelOf : GoodIn wsX7_depthOf (wsV RX7 133 RX7 yX7_levelOf wsX7_levelOf) := goodIn_app (goodIn_of _ (by decide +kernel)) ggX7_depthOf_X7_levelOf
set_option maxRecDepth 20000 in
theorem ggX7_depthOf_X7_down : GoodIn wsX7_depthOf wsX7_down := goodIn_r _ [11] (by decide +kernel) (by decide +kernel)
set_option maxRecDepth 20000 in
theorem gX7_depthOf_X7_down : GoodIn wsX7_depthOf (va_wsS RX7 129 yX7_down wsX7_down) := goodIn_app (goodIn_of _ (by decide +kernel)) ggX7_depthOf_X7_down
theorem dX7_depthOf_0 : decode cX7_depthOf 0 = .ok (.bipush 30, 2) := by decide +kernel
theorem dX7_depthOf_2 : decode cX7_depthOf 2 = .ok (.aload_n 0, 1) := by decide +kernel
theorem dX7_depthOf_3 : decode cX7_depthOf 3 = .ok (.iload_n 1, 1) := by decide +kernel
theorem dX7_depthOf_4 : decode cX7_depthOf 4 = .ok (.invokevirtual 133, 3) := by decide +kernel
theorem dX7_depthOf_7 : decode cX7_depthOf 7 = .ok (.i2l, 1) := by decide +kernel
theorem dX7_depthOf_8 : decode cX7_depthOf 8 = .ok (.ldc2_w 136, 3) := by decide +kernel
theorem dX7_depthOf_11 : decode cX7_depthOf 11 = .ok (.invokestatic 129, 3) := by decide +kernel
theorem dX7_depthOf_14 : decode cX7_depthOf 14 = .ok (.l2i, 1) := by decide +kernel
theorem dX7_depthOf_15 : decode cX7_depthOf 15 = .ok (.iadd, 1) := by decide +kernel
theorem dX7_depthOf_16 : decode cX7_depthOf 16 = .ok (.ireturn, 1) := by decide +kernel
set_option maxRecDepth 20000 in
theorem ggX7_isFit_X7_depthOf : GoodIn wsX7_isFit wsX7_depthOf := goodIn_r _ [9, 10, 11, 12, 13, 8, 14, 15, 16, 17, 18, 19, 20, 21, 22, 23, 24, 25, 26, 27, 28, 29, 30, 31, 32, 33, 34, 35, 36, 37, 38, 39, 40, 41, 42, 43, 44, 45, 46, 47, 48, 49, 50, 51, 52, 53, 54, 55] (by decide +kernel) (by decide +kernel)
set_option maxRecDepth 20000 in
theorem gX7_isFit_X7_depthOf : GoodIn wsX7_isFit (wsV RX7 138 RX7 yX7_depthOf wsX7_depthOf) := goodIn_app (goodIn_of _ (by decide +kernel)) ggX7_isFit_X7_depthOf
theorem dX7_isFit_0 : decode cX7_isFit 0 = .ok (.aload_n 0, 1) := by decide +kernel
theorem dX7_isFit_1 : decode cX7_isFit 1 = .ok (.getfield 43, 3) := by decide +kernel
theorem dX7_isFit_4 : decode cX7_isFit 4 = .ok (.iload_n 1, 1) := by decide +kernel
theorem dX7_isFit_5 : decode cX7_isFit 5 = .ok (.iaload, 1) := by decide +kernel
theorem dX7_isFit_6 : decode cX7_isFit 6 = .ok (.aload_n 0, 1) := by decide +kernel
theorem dX7_isFit_7 : decode cX7_isFit 7 = .ok (.getfield 13, 3) := by decide +kernel
theorem dX7_isFit_10 : decode cX7_isFit 10 = .ok (.if_icmp .gt 49, 3) := by decide +kernel
theorem dX7_isFit_13 : decode cX7_isFit 13 = .ok (.aload_n 0, 1) := by decide +kernel
theorem dX7_isFit_14 : decode cX7_isFit 14 = .ok (.getfield 46, 3) := by decide +kernel
theorem dX7_isFit_17 : decode cX7_isFit 17 = .ok (.iload_n 1, 1) := by decide +kernel
theorem dX7_isFit_18 : decode cX7_isFit 18 = .ok (.iaload, 1) := by decide +kernel
theorem dX7_isFit_19 : decode cX7_isFit 19 = .ok (.aload_n 0, 1) := by decide +kernel
theorem dX7_isFit_20 : decode cX7_isFit 20 = .ok (.getfield 17, 3) := by decide +kernel
theorem dX7_isFit_23 : decode cX7_isFit 23 = .ok (.iconst 3, 1) := by decide +kernel
theorem dX7_isFit_24 : decode cX7_isFit 24 = .ok (.iaload, 1) := by decide +kernel
theorem dX7_isFit_25 : decode cX7_isFit 25 = .ok (.iadd, 1) := by decide +kernel
theorem dX7_isFit_26 : decode cX7_isFit 26 = .ok (.aload_n 0, 1) := by decide +kernel
theorem dX7_isFit_27 : decode cX7_isFit 27 = .ok (.iconst 0, 1) := by decide +kernel
theorem dX7_isFit_28 : decode cX7_isFit 28 = .ok (.invokevirtual 138, 3) := by decide +kernel
theorem dX7_isFit_31 : decode cX7_isFit 31 = .ok (.if_icmp .gt 28, 3) := by decide +kernel
theorem dX7_isFit_34 : decode cX7_isFit 34 = .ok (.aload_n 0, 1) := by decide +kernel
theorem dX7_isFit_35 : decode cX7_isFit 35 = .ok (.getfield 46, 3) := by decide +kernel
theorem dX7_isFit_38 : decode cX7_isFit 38 = .ok (.iload_n 1, 1) := by decide +kernel
theorem dX7_isFit_39 : decode cX7_isFit 39 = .ok (.iaload, 1) := by decide +kernel
theorem dX7_isFit_40 : decode cX7_isFit 40 = .ok (.aload_n 0, 1) := by decide +kernel
theorem dX7_isFit_41 : decode cX7_isFit 41 = .ok (.getfield 17, 3) := by decide +kernel
theorem dX7_isFit_44 : decode cX7_isFit 44 = .ok (.iconst 3, 1) := by decide +kernel
theorem dX7_isFit_45 : decode cX7_isFit 45 = .ok (.iaload, 1) := by decide +kernel
theorem dX7_isFit_46 : decode cX7_isFit 46 = .ok (.iadd, 1) := by decide +kernel
theorem dX7_isFit_47 : decode cX7_isFit 47 = .ok (.aload_n 0, 1) := by decide +kernel
theorem dX7_isFit_48 : decode cX7_isFit 48 = .ok (.iconst 1, 1) := by decide +kernel
theorem dX7_isFit_49 : decode cX7_isFit 49 = .ok (.invokevirtual 138, 3) := by decide +kernel
theorem dX7_isFit_52 : decode cX7_isFit 52 = .ok (.if_icmp .gt 7, 3) := by decide +kernel
theorem dX7_isFit_55 : decode cX7_isFit 55 = .ok (.iconst 1, 1) := by decide +kernel
theorem dX7_isFit_56 : decode cX7_isFit 56 = .ok (.goto 4, 3) := by decide +kernel
theorem dX7_isFit_59 : decode cX7_isFit 59 = .ok (.iconst 0, 1) := by decide +kernel
theorem dX7_isFit_60 : decode cX7_isFit 60 = .ok (.ireturn, 1) := by decide +kernel
set_option maxRecDepth 20000 in
theorem ggX7_isLeft_X7_isFit : GoodIn wsX7_isLeft wsX7_isFit := goodIn_r _ [6, 7, 8, 9, 10, 11, 12, 13, 5, 14, 15, 16, 17, 18, 19, 20, 21, 22, 23, 24, 25, 26, 27, 28, 29, 30, 31, 32, 33, 34, 35, 36, 37, 38, 39, 40, 41, 42, 43, 44, 45, 46, 47, 48, 49, 50, 51, 52, 53, 54, 55, 56, 57, 58, 59, 60] (by decide +kernel) (by decide +kernel)
set_option maxRecDepth 20000 in
theorem gX7_isLeft_X7_isFit : GoodIn wsX7_isLeft (wsV RX7 141 RX7 yX7_isFit wsX7_isFit) := goodIn_app (goodIn_of _ (by decide +kernel)) ggX7_isLeft_X7_isFit
theorem dX7_isLeft_0 : decode cX7_isLeft 0 = .ok (.aload_n 0, 1) := by decide +kernel
theorem dX7_isLeft_1 : decode cX7_isLeft 1 = .ok (.getfield 55, 3) := by decide +kernel
theorem dX7_isLeft_4 : decode cX7_isLeft 4 = .ok (.iload_n 1, 1) := by decide +kernel
theorem dX7_isLeft_5 : decode cX7_isLeft 5 = .ok (.iaload, 1) := by decide +kernel
theorem dX7_isLeft_6 : decode cX7_isLeft 6 = .ok (.iconst (-1), 1) := by decide +kernel
theorem dX7_isLeft_7 : decode cX7_isLeft 7 = .ok (.if_icmp .ne 15, 3) := by decide +kernel
theorem dX7_isLeft_10 : decode cX7_isLeft 10 = .ok (.aload_n 0, 1) := by decide +kernel
theorem dX7_isLeft_11 : decode cX7_isLeft 11 = .ok (.iload_n 1, 1) := by decide +kernel
theorem dX7_isLeft_12 : decode cX7_isLeft 12 = .ok (.invokevirtual 141, 3) := by decide +kernel
theorem dX7_isLeft_15 : decode cX7_isLeft 15 = .ok (.ifCond .eq 7, 3) := by decide +kernel
theorem dX7_isLeft_18 : decode cX7_isLeft 18 = .ok (.iconst 1, 1) := by decide +kernel
theorem dX7_isLeft_19 : decode cX7_isLeft 19 = .ok (.goto 4, 3) := by decide +kernel
theorem dX7_isLeft_22 : decode cX7_isLeft 22 = .ok (.iconst 0, 1) := by decide +kernel
theorem dX7_isLeft_23 : decode cX7_isLeft 23 = .ok (.ireturn, 1) := by decide +kernel
theorem dX7_isAhead_0 : decode cX7_isAhead 0 = .ok (.aload_n 0, 1) := by decide +kernel
theorem dX7_isAhead_1 : decode cX7_isAhead 1 = .ok (.getfield 52, 3) := by decide +kernel
theorem dX7_isAhead_4 : decode cX7_isAhead 4 = .ok (.iload_n 1, 1) := by decide +kernel
theorem dX7_isAhead_5 : decode cX7_isAhead 5 = .ok (.iaload, 1) := by decide +kernel
theorem dX7_isAhead_6 : decode cX7_isAhead 6 = .ok (.aload_n 0, 1) := by decide +kernel
theorem dX7_isAhead_7 : decode cX7_isAhead 7 = .ok (.getfield 52, 3) := by decide +kernel
theorem dX7_isAhead_10 : decode cX7_isAhead 10 = .ok (.iload_n 2, 1) := by decide +kernel
theorem dX7_isAhead_11 : decode cX7_isAhead 11 = .ok (.iaload, 1) := by decide +kernel
theorem dX7_isAhead_12 : decode cX7_isAhead 12 = .ok (.if_icmp .eq 24, 3) := by decide +kernel
theorem dX7_isAhead_15 : decode cX7_isAhead 15 = .ok (.aload_n 0, 1) := by decide +kernel
theorem dX7_isAhead_16 : decode cX7_isAhead 16 = .ok (.getfield 52, 3) := by decide +kernel
theorem dX7_isAhead_19 : decode cX7_isAhead 19 = .ok (.iload_n 1, 1) := by decide +kernel
theorem dX7_isAhead_20 : decode cX7_isAhead 20 = .ok (.iaload, 1) := by decide +kernel
theorem dX7_isAhead_21 : decode cX7_isAhead 21 = .ok (.aload_n 0, 1) := by decide +kernel
theorem dX7_isAhead_22 : decode cX7_isAhead 22 = .ok (.getfield 52, 3) := by decide +kernel
theorem dX7_isAhead_25 : decode cX7_isAhead 25 = .ok (.iload_n 2, 1) := by decide +kernel
theorem dX7_isAhead_26 : decode cX7_isAhead 26 = .ok (.iaload, 1) := by decide +kernel
theorem dX7_isAhead_27 : decode cX7_isAhead 27 = .ok (.if_icmp .ge 7, 3) := by decide +kernel
theorem dX7_isAhead_30 : decode cX7_isAhead 30 = .ok (.iconst 1, 1) := by decide +kernel
theorem dX7_isAhead_31 : decode cX7_isAhead 31 = .ok (.goto 4, 3) := by decide +kernel
theorem dX7_isAhead_34 : decode cX7_isAhead 34 = .ok (.iconst 0, 1) := by decide +kernel
theorem dX7_isAhead_35 : decode cX7_isAhead 35 = .ok (.ireturn, 1) := by decide +kernel
theorem dX7_isAhead_36 : decode cX7_isAhead 36 = .ok (.aload_n 0, 1) := by decide +kernel
theorem dX7_isAhead_37 : decode cX7_isAhead 37 = .ok (.getfield 40, 3) := by decide +kernel
theorem dX7_isAhead_40 : decode cX7_isAhead 40 = .ok (.iload_n 1, 1) := by decide +kernel
theorem dX7_isAhead_41 : decode cX7_isAhead 41 = .ok (.iaload, 1) := by decide +kernel
theorem dX7_isAhead_42 : decode cX7_isAhead 42 = .ok (.aload_n 0, 1) := by decide +kernel
theorem dX7_isAhead_43 : decode cX7_isAhead 43 = .ok (.getfield 40, 3) := by decide +kernel
theorem dX7_isAhead_46 : decode cX7_isAhead 46 = .ok (.iload_n 2, 1) := by decide +kernel
theorem dX7_isAhead_47 : decode cX7_isAhead 47 = .ok (.iaload, 1) := by decide +kernel
theorem dX7_isAhead_48 : decode cX7_isAhead 48 = .ok (.if_icmp .eq 26, 3) := by decide +kernel
theorem dX7_isAhead_51 : decode cX7_isAhead 51 = .ok (.aload_n 0, 1) := by decide +kernel
theorem dX7_isAhead_52 : decode cX7_isAhead 52 = .ok (.getfield 40, 3) := by decide +kernel
theorem dX7_isAhead_55 : decode cX7_isAhead 55 = .ok (.iload_n 1, 1) := by decide +kernel
theorem dX7_isAhead_56 : decode cX7_isAhead 56 = .ok (.iaload, 1) := by decide +kernel
theorem dX7_isAhead_57 : decode cX7_isAhead 57 = .ok (.aload_n 0, 1) := by decide +kernel
theorem dX7_isAhead_58 : decode cX7_isAhead 58 = .ok (.getfield 40, 3) := by decide +kernel
theorem dX7_isAhead_61 : decode cX7_isAhead 61 = .ok (.iload_n 2, 1) := by decide +kernel
theorem dX7_isAhead_62 : decode cX7_isAhead 62 = .ok (.iaload, 1) := by decide +kernel
theorem dX7_isAhead_63 : decode cX7_isAhead 63 = .ok (.if_icmp .ge 7, 3) := by decide +kernel
theorem dX7_isAhead_66 : decode cX7_isAhead 66 = .ok (.iconst 1, 1) := by decide +kernel
theorem dX7_isAhead_67 : decode cX7_isAhead 67 = .ok (.goto 17, 3) := by decide +kernel
theorem dX7_isAhead_70 : decode cX7_isAhead 70 = .ok (.iconst 0, 1) := by decide +kernel
theorem dX7_isAhead_71 : decode cX7_isAhead 71 = .ok (.goto 13, 3) := by decide +kernel
theorem dX7_isAhead_74 : decode cX7_isAhead 74 = .ok (.iload_n 1, 1) := by decide +kernel
theorem dX7_isAhead_75 : decode cX7_isAhead 75 = .ok (.iload_n 2, 1) := by decide +kernel
theorem dX7_isAhead_76 : decode cX7_isAhead 76 = .ok (.if_icmp .ge 7, 3) := by decide +kernel
theorem dX7_isAhead_79 : decode cX7_isAhead 79 = .ok (.iconst 1, 1) := by decide +kernel
theorem dX7_isAhead_80 : decode cX7_isAhead 80 = .ok (.goto 4, 3) := by decide +kernel
theorem dX7_isAhead_83 : decode cX7_isAhead 83 = .ok (.iconst 0, 1) := by decide +kernel
theorem dX7_isAhead_84 : decode cX7_isAhead 84 = .ok (.ireturn, 1) := by decide +kernel
set_option maxRecDepth 20000 in
theorem ggX7_queues_X7_isLeft : GoodIn wsX7_queues wsX7_isLeft := goodIn_r _ [10, 11, 12, 13, 14, 9, 15, 16, 17, 18, 19, 20, 21, 22, 23, 24, 25, 26, 27, 28, 29, 30, 31, 32, 33, 39, 40, 41, 42, 43, 44, 45, 46, 47, 48, 49, 50, 51, 52, 53, 54, 55, 56, 57, 58, 59, 60, 61, 62, 63, 64, 65, 66, 67, 68, 69, 70, 71, 72, 73, 74] (by decide +kernel) (by decide +kernel)
set_option maxRecDepth 20000 in
theorem gX7_queues_X7_isLeft : GoodIn wsX7_queues (wsV RX7 147 RX7 yX7_isLeft wsX7_isLeft) := goodIn_app (goodIn_of _ (by decide +kernel)) ggX7_queues_X7_isLeft
set_option maxRecDepth 20000 in
theorem ggX7_queues_X7_isAhead : GoodIn wsX7_queues wsX7_isAhead := goodIn_r _ [37, 38, 4, 39, 40, 41, 42, 43, 44, 45, 46, 47, 48, 49, 50, 51, 52, 53, 54, 55, 56, 57, 58, 59, 60, 61, 62, 63, 64, 65, 66, 67, 68, 69, 70, 71, 72, 73, 74] (by decide +kernel) (by decide +kernel)
set_option maxRecDepth 20000 in
theorem gX7_queues_X7_isAhead : GoodIn wsX7_queues (wsV RX7 150 RX7 yX7_isAhead wsX7_isAhead) := goodIn_app (goodIn_of _ (by decide +kernel)) ggX7_queues_X7_isAhead
theorem dX7_queues_0 : decode cX7_queues 0 = .ok (.aload_n 0, 1) := by decide +kernel
theorem dX7_queues_1 : decode cX7_queues 1 = .ok (.iconst 0, 1) := by decide +kernel
theorem dX7_queues_2 : decode cX7_queues 2 = .ok (.putfield 144, 3) := by decide +kernel
theorem dX7_queues_5 : decode cX7_queues 5 = .ok (.iconst 0, 1) := by decide +kernel
theorem dX7_queues_6 : decode cX7_queues 6 = .ok (.istore 4, 2) := by decide +kernel
theorem dX7_queues_8 : decode cX7_queues 8 = .ok (.iload 4, 2) := by decide +kernel
theorem dX7_queues_10 : decode cX7_queues 10 = .ok (.aload_n 0, 1) := by decide +kernel
theorem dX7_queues_11 : decode cX7_queues 11 = .ok (.getfield 126, 3) := by decide +kernel
theorem dX7_queues_14 : decode cX7_queues 14 = .ok (.if_icmp .ge 123, 3) := by decide +kernel
theorem dX7_queues_17 : decode cX7_queues 17 = .ok (.aload_n 0, 1) := by decide +kernel
theorem dX7_queues_18 : decode cX7_queues 18 = .ok (.getfield 37, 3) := by decide +kernel
theorem dX7_queues_21 : decode cX7_queues 21 = .ok (.iload 4, 2) := by decide +kernel
theorem dX7_queues_23 : decode cX7_queues 23 = .ok (.iaload, 1) := by decide +kernel
theorem dX7_queues_24 : decode cX7_queues 24 = .ok (.iload_n 1, 1) := by decide +kernel
theorem dX7_queues_25 : decode cX7_queues 25 = .ok (.if_icmp .ne 106, 3) := by decide +kernel
theorem dX7_queues_28 : decode cX7_queues 28 = .ok (.aload_n 0, 1) := by decide +kernel
theorem dX7_queues_29 : decode cX7_queues 29 = .ok (.getfield 40, 3) := by decide +kernel
theorem dX7_queues_32 : decode cX7_queues 32 = .ok (.iload 4, 2) := by decide +kernel
theorem dX7_queues_34 : decode cX7_queues 34 = .ok (.iaload, 1) := by decide +kernel
theorem dX7_queues_35 : decode cX7_queues 35 = .ok (.iload_n 2, 1) := by decide +kernel
theorem dX7_queues_36 : decode cX7_queues 36 = .ok (.if_icmp .gt 95, 3) := by decide +kernel
theorem dX7_queues_39 : decode cX7_queues 39 = .ok (.aload_n 0, 1) := by decide +kernel
theorem dX7_queues_40 : decode cX7_queues 40 = .ok (.iload 4, 2) := by decide +kernel
theorem dX7_queues_42 : decode cX7_queues 42 = .ok (.invokevirtual 147, 3) := by decide +kernel
theorem dX7_queues_45 : decode cX7_queues 45 = .ok (.ifCond .eq 86, 3) := by decide +kernel
theorem dX7_queues_48 : decode cX7_queues 48 = .ok (.iload_n 3, 1) := by decide +kernel
theorem dX7_queues_49 : decode cX7_queues 49 = .ok (.iload 4, 2) := by decide +kernel
theorem dX7_queues_51 : decode cX7_queues 51 = .ok (.ishr, 1) := by decide +kernel
theorem dX7_queues_52 : decode cX7_queues 52 = .ok (.iconst 1, 1) := by decide +kernel
theorem dX7_queues_53 : decode cX7_queues 53 = .ok (.iand, 1) := by decide +kernel
theorem dX7_queues_54 : decode cX7_queues 54 = .ok (.iconst 1, 1) := by decide +kernel
theorem dX7_queues_55 : decode cX7_queues 55 = .ok (.if_icmp .ne 6, 3) := by decide +kernel
theorem dX7_queues_58 : decode cX7_queues 58 = .ok (.goto 73, 3) := by decide +kernel
theorem dX7_queues_61 : decode cX7_queues 61 = .ok (.aload_n 0, 1) := by decide +kernel
theorem dX7_queues_62 : decode cX7_queues 62 = .ok (.getfield 144, 3) := by decide +kernel
theorem dX7_queues_65 : decode cX7_queues 65 = .ok (.istore 5, 2) := by decide +kernel
theorem dX7_queues_67 : decode cX7_queues 67 = .ok (.iload 5, 2) := by decide +kernel
theorem dX7_queues_69 : decode cX7_queues 69 = .ok (.ifCond .le 43, 3) := by decide +kernel
theorem dX7_queues_72 : decode cX7_queues 72 = .ok (.aload_n 0, 1) := by decide +kernel
theorem dX7_queues_73 : decode cX7_queues 73 = .ok (.iload 4, 2) := by decide +kernel
theorem dX7_queues_75 : decode cX7_queues 75 = .ok (.aload_n 0, 1) := by decide +kernel
theorem dX7_queues_76 : decode cX7_queues 76 = .ok (.getfield 58, 3) := by decide +kernel
theorem dX7_queues_79 : decode cX7_queues 79 = .ok (.iload 5, 2) := by decide +kernel
theorem dX7_queues_81 : decode cX7_queues 81 = .ok (.iconst 1, 1) := by decide +kernel
theorem dX7_queues_82 : decode cX7_queues 82 = .ok (.isub, 1) := by decide +kernel
theorem dX7_queues_83 : decode cX7_queues 83 = .ok (.iaload, 1) := by decide +kernel
theorem dX7_queues_84 : decode cX7_queues 84 = .ok (.invokevirtual 150, 3) := by decide +kernel
theorem dX7_queues_87 : decode cX7_queues 87 = .ok (.ifCond .eq 25, 3) := by decide +kernel
theorem dX7_queues_90 : decode cX7_queues 90 = .ok (.aload_n 0, 1) := by decide +kernel
theorem dX7_queues_91 : decode cX7_queues 91 = .ok (.getfield 58, 3) := by decide +kernel
theorem dX7_queues_94 : decode cX7_queues 94 = .ok (.iload 5, 2) := by decide +kernel
theorem dX7_queues_96 : decode cX7_queues 96 = .ok (.aload_n 0, 1) := by decide +kernel
theorem dX7_queues_97 : decode cX7_queues 97 = .ok (.getfield 58, 3) := by decide +kernel
theorem dX7_queues_100 : decode cX7_queues 100 = .ok (.iload 5, 2) := by decide +kernel
theorem dX7_queues_102 : decode cX7_queues 102 = .ok (.iconst 1, 1) := by decide +kernel
theorem dX7_queues_103 : decode cX7_queues 103 = .ok (.isub, 1) := by decide +kernel
theorem dX7_queues_104 : decode cX7_queues 104 = .ok (.iaload, 1) := by decide +kernel
theorem dX7_queues_105 : decode cX7_queues 105 = .ok (.iastore, 1) := by decide +kernel
theorem dX7_queues_106 : decode cX7_queues 106 = .ok (.iinc 5 (-1), 3) := by decide +kernel
