theorem dX0_init_0 : decode cX0_init 0 = .ok (.aload_n 0, 1) := by decide +kernel
theorem dX0_init_1 : decode cX0_init 1 = .ok (.invokespecial 3, 3) := by decide +kernel
theorem dX0_init_4 : decode cX0_init 4 = .ok (.aload_n 0, 1) := by decide +kernel
theorem dX0_init_5 : decode cX0_init 5 = .ok (.bipush 8, 2) := by decide +kernel
theorem dX0_init_7 : decode cX0_init 7 = .ok (.putfield 9, 3) := by decide +kernel
theorem dX0_init_10 : decode cX0_init 10 = .ok (.return_, 1) := by decide +kernel
theorem dX0_has_0 : decode cX0_has 0 = .ok (.iload_n 1, 1) := by decide +kernel
theorem dX0_has_1 : decode cX0_has 1 = .ok (.ifCond .lt 15, 3) := by decide +kernel
theorem dX0_has_4 : decode cX0_has 4 = .ok (.iload_n 1, 1) := by decide +kernel
theorem dX0_has_5 : decode cX0_has 5 = .ok (.aload_n 0, 1) := by decide +kernel
theorem dX0_has_6 : decode cX0_has 6 = .ok (.getfield 9, 3) := by decide +kernel
theorem dX0_has_9 : decode cX0_has 9 = .ok (.if_icmp .ge 7, 3) := by decide +kernel
theorem dX0_has_12 : decode cX0_has 12 = .ok (.iconst 1, 1) := by decide +kernel
theorem dX0_has_13 : decode cX0_has 13 = .ok (.goto 4, 3) := by decide +kernel
theorem dX0_has_16 : decode cX0_has 16 = .ok (.iconst 0, 1) := by decide +kernel
theorem dX0_has_17 : decode cX0_has 17 = .ok (.ireturn, 1) := by decide +kernel
set_option maxRecDepth 20000 in
theorem ggX0_chipAt_J6_bitCount_0f7a4 : GoodIn wsX0_chipAt wsJ6_bitCount_0f7a4 := goodIn_r _ [4, 5, 6, 7] (by decide +kernel) (by decide +kernel)
set_option maxRecDepth 20000 in
theorem gX0_chipAt_J6_bitCount_0f7a4 : GoodIn wsX0_chipAt (va_wsS RX0 15 yJ6_bitCount_0f7a4 wsJ6_bitCount_0f7a4) := goodIn_app (goodIn_of _ (by decide +kernel)) ggX0_chipAt_J6_bitCount_0f7a4
theorem dX0_chipAt_0 : decode cX0_chipAt 0 = .ok (.iload_n 1, 1) := by decide +kernel
theorem dX0_chipAt_1 : decode cX0_chipAt 1 = .ok (.iload_n 2, 1) := by decide +kernel
theorem dX0_chipAt_2 : decode cX0_chipAt 2 = .ok (.iand, 1) := by decide +kernel
theorem dX0_chipAt_3 : decode cX0_chipAt 3 = .ok (.invokestatic 15, 3) := by decide +kernel
theorem dX0_chipAt_6 : decode cX0_chipAt 6 = .ok (.iconst 1, 1) := by decide +kernel
theorem dX0_chipAt_7 : decode cX0_chipAt 7 = .ok (.iand, 1) := by decide +kernel
theorem dX0_chipAt_8 : decode cX0_chipAt 8 = .ok (.ifCond .ne 7, 3) := by decide +kernel
theorem dX0_chipAt_11 : decode cX0_chipAt 11 = .ok (.iconst 1, 1) := by decide +kernel
theorem dX0_chipAt_12 : decode cX0_chipAt 12 = .ok (.goto 4, 3) := by decide +kernel
theorem dX0_chipAt_15 : decode cX0_chipAt 15 = .ok (.iconst (-1), 1) := by decide +kernel
theorem dX0_chipAt_16 : decode cX0_chipAt 16 = .ok (.ireturn, 1) := by decide +kernel
set_option maxRecDepth 20000 in
theorem ggX0_likeness_X0_chipAt : GoodIn wsX0_likeness wsX0_chipAt := goodIn_r _ [10, 11, 12, 13, 14, 15, 16, 17] (by decide +kernel) (by decide +kernel)
set_option maxRecDepth 20000 in
theorem gX0_likeness_X0_chipAt : GoodIn wsX0_likeness (wsV RX0 21 RX0 yX0_chipAt wsX0_chipAt) := goodIn_app (goodIn_of _ (by decide +kernel)) ggX0_likeness_X0_chipAt
theorem dX0_likeness_0 : decode cX0_likeness 0 = .ok (.iconst 0, 1) := by decide +kernel
theorem dX0_likeness_1 : decode cX0_likeness 1 = .ok (.istore 4, 2) := by decide +kernel
theorem dX0_likeness_3 : decode cX0_likeness 3 = .ok (.iconst 0, 1) := by decide +kernel
theorem dX0_likeness_4 : decode cX0_likeness 4 = .ok (.istore 5, 2) := by decide +kernel
theorem dX0_likeness_6 : decode cX0_likeness 6 = .ok (.iload 5, 2) := by decide +kernel
theorem dX0_likeness_8 : decode cX0_likeness 8 = .ok (.aload_n 0, 1) := by decide +kernel
theorem dX0_likeness_9 : decode cX0_likeness 9 = .ok (.getfield 9, 3) := by decide +kernel
theorem dX0_likeness_12 : decode cX0_likeness 12 = .ok (.if_icmp .ge 53, 3) := by decide +kernel
theorem dX0_likeness_15 : decode cX0_likeness 15 = .ok (.iload 5, 2) := by decide +kernel
theorem dX0_likeness_17 : decode cX0_likeness 17 = .ok (.iload_n 3, 1) := by decide +kernel
theorem dX0_likeness_18 : decode cX0_likeness 18 = .ok (.iadd, 1) := by decide +kernel
theorem dX0_likeness_19 : decode cX0_likeness 19 = .ok (.istore 6, 2) := by decide +kernel
theorem dX0_likeness_21 : decode cX0_likeness 21 = .ok (.iload 6, 2) := by decide +kernel
theorem dX0_likeness_23 : decode cX0_likeness 23 = .ok (.aload_n 0, 1) := by decide +kernel
theorem dX0_likeness_24 : decode cX0_likeness 24 = .ok (.getfield 9, 3) := by decide +kernel
theorem dX0_likeness_27 : decode cX0_likeness 27 = .ok (.if_icmp .lt 12, 3) := by decide +kernel
theorem dX0_likeness_30 : decode cX0_likeness 30 = .ok (.iload 6, 2) := by decide +kernel
theorem dX0_likeness_32 : decode cX0_likeness 32 = .ok (.aload_n 0, 1) := by decide +kernel
theorem dX0_likeness_33 : decode cX0_likeness 33 = .ok (.getfield 9, 3) := by decide +kernel
theorem dX0_likeness_36 : decode cX0_likeness 36 = .ok (.isub, 1) := by decide +kernel
theorem dX0_likeness_37 : decode cX0_likeness 37 = .ok (.istore 6, 2) := by decide +kernel
theorem dX0_likeness_39 : decode cX0_likeness 39 = .ok (.iload 4, 2) := by decide +kernel
theorem dX0_likeness_41 : decode cX0_likeness 41 = .ok (.aload_n 0, 1) := by decide +kernel
theorem dX0_likeness_42 : decode cX0_likeness 42 = .ok (.iload_n 1, 1) := by decide +kernel
theorem dX0_likeness_43 : decode cX0_likeness 43 = .ok (.iload 5, 2) := by decide +kernel
theorem dX0_likeness_45 : decode cX0_likeness 45 = .ok (.invokevirtual 21, 3) := by decide +kernel
theorem dX0_likeness_48 : decode cX0_likeness 48 = .ok (.aload_n 0, 1) := by decide +kernel
theorem dX0_likeness_49 : decode cX0_likeness 49 = .ok (.iload_n 2, 1) := by decide +kernel
theorem dX0_likeness_50 : decode cX0_likeness 50 = .ok (.iload 6, 2) := by decide +kernel
theorem dX0_likeness_52 : decode cX0_likeness 52 = .ok (.invokevirtual 21, 3) := by decide +kernel
theorem dX0_likeness_55 : decode cX0_likeness 55 = .ok (.imul, 1) := by decide +kernel
theorem dX0_likeness_56 : decode cX0_likeness 56 = .ok (.iadd, 1) := by decide +kernel
theorem dX0_likeness_57 : decode cX0_likeness 57 = .ok (.istore 4, 2) := by decide +kernel
theorem dX0_likeness_59 : decode cX0_likeness 59 = .ok (.iinc 5 1, 3) := by decide +kernel
theorem dX0_likeness_62 : decode cX0_likeness 62 = .ok (.goto (-56), 3) := by decide +kernel
theorem dX0_likeness_65 : decode cX0_likeness 65 = .ok (.iload 4, 2) := by decide +kernel
theorem dX0_likeness_67 : decode cX0_likeness 67 = .ok (.invokestatic 25, 3) := by decide +kernel
theorem dX0_likeness_70 : decode cX0_likeness 70 = .ok (.ireturn, 1) := by decide +kernel
theorem dX1_init_0 : decode cX1_init 0 = .ok (.aload_n 0, 1) := by decide +kernel
theorem dX1_init_1 : decode cX1_init 1 = .ok (.invokespecial 3, 3) := by decide +kernel
theorem dX1_init_4 : decode cX1_init 4 = .ok (.aload_n 0, 1) := by decide +kernel
theorem dX1_init_5 : decode cX1_init 5 = .ok (.iconst 0, 1) := by decide +kernel
theorem dX1_init_6 : decode cX1_init 6 = .ok (.putfield 9, 3) := by decide +kernel
theorem dX1_init_9 : decode cX1_init 9 = .ok (.aload_n 0, 1) := by decide +kernel
theorem dX1_init_10 : decode cX1_init 10 = .ok (.iconst 0, 1) := by decide +kernel
theorem dX1_init_11 : decode cX1_init 11 = .ok (.putfield 15, 3) := by decide +kernel
theorem dX1_init_14 : decode cX1_init 14 = .ok (.aload_n 0, 1) := by decide +kernel
theorem dX1_init_15 : decode cX1_init 15 = .ok (.bipush 12, 2) := by decide +kernel
theorem dX1_init_17 : decode cX1_init 17 = .ok (.newarray .int, 2) := by decide +kernel
theorem dX1_init_19 : decode cX1_init 19 = .ok (.putfield 18, 3) := by decide +kernel
theorem dX1_init_22 : decode cX1_init 22 = .ok (.aload_n 0, 1) := by decide +kernel
theorem dX1_init_23 : decode cX1_init 23 = .ok (.iload_n 1, 1) := by decide +kernel
theorem dX1_init_24 : decode cX1_init 24 = .ok (.putfield 22, 3) := by decide +kernel
theorem dX1_init_27 : decode cX1_init 27 = .ok (.aload_n 0, 1) := by decide +kernel
theorem dX1_init_28 : decode cX1_init 28 = .ok (.iload_n 2, 1) := by decide +kernel
theorem dX1_init_29 : decode cX1_init 29 = .ok (.putfield 25, 3) := by decide +kernel
theorem dX1_init_32 : decode cX1_init 32 = .ok (.return_, 1) := by decide +kernel
theorem dX1_isFull_0 : decode cX1_isFull 0 = .ok (.aload_n 0, 1) := by decide +kernel
theorem dX1_isFull_1 : decode cX1_isFull 1 = .ok (.getfield 15, 3) := by decide +kernel
theorem dX1_isFull_4 : decode cX1_isFull 4 = .ok (.aload_n 0, 1) := by decide +kernel
theorem dX1_isFull_5 : decode cX1_isFull 5 = .ok (.getfield 18, 3) := by decide +kernel
theorem dX1_isFull_8 : decode cX1_isFull 8 = .ok (.arraylength, 1) := by decide +kernel
theorem dX1_isFull_9 : decode cX1_isFull 9 = .ok (.if_icmp .lt 7, 3) := by decide +kernel
theorem dX1_isFull_12 : decode cX1_isFull 12 = .ok (.iconst 1, 1) := by decide +kernel
theorem dX1_isFull_13 : decode cX1_isFull 13 = .ok (.goto 4, 3) := by decide +kernel
theorem dX1_isFull_16 : decode cX1_isFull 16 = .ok (.iconst 0, 1) := by decide +kernel
theorem dX1_isFull_17 : decode cX1_isFull 17 = .ok (.ireturn, 1) := by decide +kernel
set_option maxRecDepth 20000 in
theorem ggX1_add_X1_isFull : GoodIn wsX1_add wsX1_isFull := goodIn_r _ [7, 2, 1, 8, 9, 10, 11, 12] (by decide +kernel) (by decide +kernel)
set_option maxRecDepth 20000 in
theorem gX1_add_X1_isFull : GoodIn wsX1_add (wsV RX1 28 RX1 yX1_isFull wsX1_isFull) := goodIn_app (goodIn_of _ (by decide +kernel)) ggX1_add_X1_isFull
theorem dX1_add_0 : decode cX1_add 0 = .ok (.aload_n 0, 1) := by decide +kernel
theorem dX1_add_1 : decode cX1_add 1 = .ok (.invokevirtual 28, 3) := by decide +kernel
theorem dX1_add_4 : decode cX1_add 4 = .ok (.ifCond .ne 23, 3) := by decide +kernel
theorem dX1_add_7 : decode cX1_add 7 = .ok (.aload_n 0, 1) := by decide +kernel
theorem dX1_add_8 : decode cX1_add 8 = .ok (.getfield 18, 3) := by decide +kernel
theorem dX1_add_11 : decode cX1_add 11 = .ok (.aload_n 0, 1) := by decide +kernel
theorem dX1_add_12 : decode cX1_add 12 = .ok (.getfield 15, 3) := by decide +kernel
theorem dX1_add_15 : decode cX1_add 15 = .ok (.iload_n 1, 1) := by decide +kernel
theorem dX1_add_16 : decode cX1_add 16 = .ok (.iastore, 1) := by decide +kernel
theorem dX1_add_17 : decode cX1_add 17 = .ok (.aload_n 0, 1) := by decide +kernel
theorem dX1_add_18 : decode cX1_add 18 = .ok (.dup, 1) := by decide +kernel
theorem dX1_add_19 : decode cX1_add 19 = .ok (.getfield 15, 3) := by decide +kernel
theorem dX1_add_22 : decode cX1_add 22 = .ok (.iconst 1, 1) := by decide +kernel
theorem dX1_add_23 : decode cX1_add 23 = .ok (.iadd, 1) := by decide +kernel
theorem dX1_add_24 : decode cX1_add 24 = .ok (.putfield 15, 3) := by decide +kernel
theorem dX1_add_27 : decode cX1_add 27 = .ok (.return_, 1) := by decide +kernel
theorem dX1_wordAt_0 : decode cX1_wordAt 0 = .ok (.iload_n 1, 1) := by decide +kernel
theorem dX1_wordAt_1 : decode cX1_wordAt 1 = .ok (.ifCond .lt 21, 3) := by decide +kernel
theorem dX1_wordAt_4 : decode cX1_wordAt 4 = .ok (.iload_n 1, 1) := by decide +kernel
theorem dX1_wordAt_5 : decode cX1_wordAt 5 = .ok (.aload_n 0, 1) := by decide +kernel
theorem dX1_wordAt_6 : decode cX1_wordAt 6 = .ok (.getfield 18, 3) := by decide +kernel
theorem dX1_wordAt_9 : decode cX1_wordAt 9 = .ok (.arraylength, 1) := by decide +kernel
theorem dX1_wordAt_10 : decode cX1_wordAt 10 = .ok (.if_icmp .ge 12, 3) := by decide +kernel
theorem dX1_wordAt_13 : decode cX1_wordAt 13 = .ok (.aload_n 0, 1) := by decide +kernel
theorem dX1_wordAt_14 : decode cX1_wordAt 14 = .ok (.getfield 18, 3) := by decide +kernel
theorem dX1_wordAt_17 : decode cX1_wordAt 17 = .ok (.iload_n 1, 1) := by decide +kernel
theorem dX1_wordAt_18 : decode cX1_wordAt 18 = .ok (.iaload, 1) := by decide +kernel
theorem dX1_wordAt_19 : decode cX1_wordAt 19 = .ok (.goto 4, 3) := by decide +kernel
theorem dX1_wordAt_22 : decode cX1_wordAt 22 = .ok (.iconst 0, 1) := by decide +kernel
theorem dX1_wordAt_23 : decode cX1_wordAt 23 = .ok (.ireturn, 1) := by decide +kernel
set_option maxRecDepth 20000 in
theorem ggX1_isWrong_X1_wordAt : GoodIn wsX1_isWrong wsX1_wordAt := goodIn_r _ [5, 6, 7, 8, 9, 10, 11] (by decide +kernel) (by decide +kernel)
set_option maxRecDepth 20000 in
theorem gX1_isWrong_X1_wordAt : GoodIn wsX1_isWrong (wsV RX1 32 RX1 yX1_wordAt wsX1_wordAt) := goodIn_app (goodIn_of _ (by decide +kernel)) ggX1_isWrong_X1_wordAt
theorem dX1_isWrong_0 : decode cX1_isWrong 0 = .ok (.iload_n 2, 1) := by decide +kernel
theorem dX1_isWrong_1 : decode cX1_isWrong 1 = .ok (.aload_n 0, 1) := by decide +kernel
theorem dX1_isWrong_2 : decode cX1_isWrong 2 = .ok (.iload_n 1, 1) := by decide +kernel
theorem dX1_isWrong_3 : decode cX1_isWrong 3 = .ok (.invokevirtual 32, 3) := by decide +kernel
theorem dX1_isWrong_6 : decode cX1_isWrong 6 = .ok (.imul, 1) := by decide +kernel
theorem dX1_isWrong_7 : decode cX1_isWrong 7 = .ok (.ifCond .gt 7, 3) := by decide +kernel
theorem dX1_isWrong_10 : decode cX1_isWrong 10 = .ok (.iconst 1, 1) := by decide +kernel
theorem dX1_isWrong_11 : decode cX1_isWrong 11 = .ok (.goto 4, 3) := by decide +kernel
theorem dX1_isWrong_14 : decode cX1_isWrong 14 = .ok (.iconst 0, 1) := by decide +kernel
theorem dX1_isWrong_15 : decode cX1_isWrong 15 = .ok (.ireturn, 1) := by decide +kernel
theorem dX1_start_0 : decode cX1_start 0 = .ok (.iload_n 1, 1) := by decide +kernel
theorem dX1_start_1 : decode cX1_start 1 = .ok (.iload_n 2, 1) := by decide +kernel
theorem dX1_start_2 : decode cX1_start 2 = .ok (.imul, 1) := by decide +kernel
theorem dX1_start_3 : decode cX1_start 3 = .ok (.aload_n 0, 1) := by decide +kernel
theorem dX1_start_4 : decode cX1_start 4 = .ok (.getfield 9, 3) := by decide +kernel
theorem dX1_start_7 : decode cX1_start 7 = .ok (.iadd, 1) := by decide +kernel
theorem dX1_start_8 : decode cX1_start 8 = .ok (.ireturn, 1) := by decide +kernel
set_option maxRecDepth 20000 in
theorem ggX1_end_X1_start : GoodIn wsX1_end wsX1_start := goodIn_r _ [6, 7, 8, 9, 10, 11, 12] (by decide +kernel) (by decide +kernel)
set_option maxRecDepth 20000 in
theorem gX1_end_X1_start : GoodIn wsX1_end (wsV RX1 36 RX1 yX1_start wsX1_start) := goodIn_app (goodIn_of _ (by decide +kernel)) ggX1_end_X1_start
theorem dX1_end_0 : decode cX1_end 0 = .ok (.aload_n 0, 1) := by decide +kernel
theorem dX1_end_1 : decode cX1_end 1 = .ok (.getfield 15, 3) := by decide +kernel
theorem dX1_end_4 : decode cX1_end 4 = .ok (.ifCond .ne 7, 3) := by decide +kernel
theorem dX1_end_7 : decode cX1_end 7 = .ok (.iconst 0, 1) := by decide +kernel
theorem dX1_end_8 : decode cX1_end 8 = .ok (.goto 12, 3) := by decide +kernel
theorem dX1_end_11 : decode cX1_end 11 = .ok (.aload_n 0, 1) := by decide +kernel
theorem dX1_end_12 : decode cX1_end 12 = .ok (.aload_n 0, 1) := by decide +kernel
theorem dX1_end_13 : decode cX1_end 13 = .ok (.getfield 15, 3) := by decide +kernel
theorem dX1_end_16 : decode cX1_end 16 = .ok (.iload_n 1, 1) := by decide +kernel
theorem dX1_end_17 : decode cX1_end 17 = .ok (.invokevirtual 36, 3) := by decide +kernel
theorem dX1_end_20 : decode cX1_end 20 = .ok (.ireturn, 1) := by decide +kernel
theorem dX2_init_0 : decode cX2_init 0 = .ok (.aload_n 0, 1) := by decide +kernel
theorem dX2_init_1 : decode cX2_init 1 = .ok (.invokespecial 3, 3) := by decide +kernel
theorem dX2_init_4 : decode cX2_init 4 = .ok (.aload_n 0, 1) := by decide +kernel
theorem dX2_init_5 : decode cX2_init 5 = .ok (.bipush 20, 2) := by decide +kernel
theorem dX2_init_7 : decode cX2_init 7 = .ok (.newarray .int, 2) := by decide +kernel
theorem dX2_init_9 : decode cX2_init 9 = .ok (.putfield 9, 3) := by decide +kernel
theorem dX2_init_12 : decode cX2_init 12 = .ok (.aload_n 0, 1) := by decide +kernel
theorem dX2_init_13 : decode cX2_init 13 = .ok (.sipush 207, 3) := by decide +kernel
theorem dX2_init_16 : decode cX2_init 16 = .ok (.newarray .int, 2) := by decide +kernel
theorem dX2_init_18 : decode cX2_init 18 = .ok (.putfield 15, 3) := by decide +kernel
theorem dX2_init_21 : decode cX2_init 21 = .ok (.aload_n 0, 1) := by decide +kernel
theorem dX2_init_22 : decode cX2_init 22 = .ok (.aload_n 1, 1) := by decide +kernel
theorem dX2_init_23 : decode cX2_init 23 = .ok (.putfield 18, 3) := by decide +kernel
theorem dX2_init_26 : decode cX2_init 26 = .ok (.return_, 1) := by decide +kernel
set_option maxRecDepth 20000 in
theorem ggX2_silence_J7_fill_53178 : GoodIn wsX2_silence wsJ7_fill_53178 := goodIn_r _ [5] (by decide +kernel) (by decide +kernel)
set_option maxRecDepth 20000 in
theorem gX2_silence_J7_fill_53178 : GoodIn wsX2_silence (va_wsS RX2 22 yJ7_fill_53178 wsJ7_fill_53178) := goodIn_app (goodIn_of _ (by decide +kernel)) ggX2_silence_J7_fill_53178
theorem dX2_silence_0 : decode cX2_silence 0 = .ok (.aload_n 0, 1) := by decide +kernel
theorem dX2_silence_1 : decode cX2_silence 1 = .ok (.getfield 15, 3) := by decide +kernel
theorem dX2_silence_4 : decode cX2_silence 4 = .ok (.iconst 0, 1) := by decide +kernel
theorem dX2_silence_5 : decode cX2_silence 5 = .ok (.invokestatic 22, 3) := by decide +kernel
theorem dX2_silence_8 : decode cX2_silence 8 = .ok (.return_, 1) := by decide +kernel
set_option maxRecDepth 20000 in
theorem ggX2_addWords_X2_addWord : GoodIn wsX2_addWords wsX2_addWord := goodIn_r _ [6, 7, 8, 9, 10, 11, 12, 13, 14, 15, 16, 17, 18, 19, 20, 21, 22, 23, 24, 25, 26, 27, 28, 29, 30, 31, 32, 33, 39, 40, 41, 42, 34, 35, 36, 37, 38] (by decide +kernel) (by decide +kernel)
set_option maxRecDepth 20000 in
theorem gX2_addWords_X2_addWord : GoodIn wsX2_addWords (wsV RX2 34 RX2 yX2_addWord wsX2_addWord) := goodIn_app (goodIn_of _ (by decide +kernel)) ggX2_addWords_X2_addWord
theorem dX2_addWords_0 : decode cX2_addWords 0 = .ok (.iconst 0, 1) := by decide +kernel
theorem dX2_addWords_1 : decode cX2_addWords 1 = .ok (.istore_n 3, 1) := by decide +kernel
theorem dX2_addWords_2 : decode cX2_addWords 2 = .ok (.iload_n 3, 1) := by decide +kernel
theorem dX2_addWords_3 : decode cX2_addWords 3 = .ok (.aload_n 1, 1) := by decide +kernel
theorem dX2_addWords_4 : decode cX2_addWords 4 = .ok (.getfield 28, 3) := by decide +kernel
theorem dX2_addWords_7 : decode cX2_addWords 7 = .ok (.if_icmp .ge 16, 3) := by decide +kernel
theorem dX2_addWords_10 : decode cX2_addWords 10 = .ok (.aload_n 0, 1) := by decide +kernel
theorem dX2_addWords_11 : decode cX2_addWords 11 = .ok (.aload_n 1, 1) := by decide +kernel
theorem dX2_addWords_12 : decode cX2_addWords 12 = .ok (.iload_n 3, 1) := by decide +kernel
theorem dX2_addWords_13 : decode cX2_addWords 13 = .ok (.iload_n 2, 1) := by decide +kernel
theorem dX2_addWords_14 : decode cX2_addWords 14 = .ok (.invokevirtual 34, 3) := by decide +kernel
theorem dX2_addWords_17 : decode cX2_addWords 17 = .ok (.iinc 3 1, 3) := by decide +kernel
theorem dX2_addWords_20 : decode cX2_addWords 20 = .ok (.goto (-18), 3) := by decide +kernel
theorem dX2_addWords_23 : decode cX2_addWords 23 = .ok (.return_, 1) := by decide +kernel
set_option maxRecDepth 20000 in
theorem ggX2_addWord_X1_wordAt : GoodIn wsX2_addWord wsX1_wordAt := goodIn_r _ [9, 10, 32, 33, 34, 35, 36] (by decide +kernel) (by decide +kernel)
set_option maxRecDepth 20000 in
theorem gX2_addWord_X1_wordAt : GoodIn wsX2_addWord (wsV RX2 38 RX1 yX1_wordAt wsX1_wordAt) := goodIn_app (goodIn_of _ (by decide +kernel)) ggX2_addWord_X1_wordAt
set_option maxRecDepth 20000 in
theorem ggX2_addWord_X1_start : GoodIn wsX2_addWord wsX1_start := goodIn_r _ [14, 15, 32, 33, 34, 35, 36] (by decide +kernel) (by decide +kernel)
set_option maxRecDepth 20000 in
theorem gX2_addWord_X1_start : GoodIn wsX2_addWord (wsV RX2 47 RX1 yX1_start wsX1_start) := goodIn_app (goodIn_of _ (by decide +kernel)) ggX2_addWord_X1_start
set_option maxRecDepth 20000 in
theorem ggX2_addWord_X0_chipAt : GoodIn wsX2_addWord wsX0_chipAt := goodIn_r _ [20, 21, 22, 23, 24, 25, 26, 27] (by decide +kernel) (by decide +kernel)
set_option maxRecDepth 20000 in
theorem gX2_addWord_X0_chipAt : GoodIn wsX2_addWord (wsV RX2 54 RX0 yX0_chipAt wsX0_chipAt) := goodIn_app (goodIn_of _ (by decide +kernel)) ggX2_addWord_X0_chipAt
theorem dX2_addWord_0 : decode cX2_addWord 0 = .ok (.iload_n 3, 1) := by decide +kernel
theorem dX2_addWord_1 : decode cX2_addWord 1 = .ok (.aload_n 1, 1) := by decide +kernel
theorem dX2_addWord_2 : decode cX2_addWord 2 = .ok (.iload_n 2, 1) := by decide +kernel
theorem dX2_addWord_3 : decode cX2_addWord 3 = .ok (.invokevirtual 38, 3) := by decide +kernel
theorem dX2_addWord_6 : decode cX2_addWord 6 = .ok (.imul, 1) := by decide +kernel
theorem dX2_addWord_7 : decode cX2_addWord 7 = .ok (.istore 4, 2) := by decide +kernel
theorem dX2_addWord_9 : decode cX2_addWord 9 = .ok (.aload_n 1, 1) := by decide +kernel
theorem dX2_addWord_10 : decode cX2_addWord 10 = .ok (.iload_n 2, 1) := by decide +kernel
theorem dX2_addWord_11 : decode cX2_addWord 11 = .ok (.aload_n 0, 1) := by decide +kernel
theorem dX2_addWord_12 : decode cX2_addWord 12 = .ok (.getfield 18, 3) := by decide +kernel
theorem dX2_addWord_15 : decode cX2_addWord 15 = .ok (.getfield 42, 3) := by decide +kernel
theorem dX2_addWord_18 : decode cX2_addWord 18 = .ok (.invokevirtual 47, 3) := by decide +kernel
theorem dX2_addWord_21 : decode cX2_addWord 21 = .ok (.istore 5, 2) := by decide +kernel
theorem dX2_addWord_23 : decode cX2_addWord 23 = .ok (.iconst 0, 1) := by decide +kernel
theorem dX2_addWord_24 : decode cX2_addWord 24 = .ok (.istore 6, 2) := by decide +kernel
theorem dX2_addWord_26 : decode cX2_addWord 26 = .ok (.iload 6, 2) := by decide +kernel
theorem dX2_addWord_28 : decode cX2_addWord 28 = .ok (.aload_n 0, 1) := by decide +kernel
theorem dX2_addWord_29 : decode cX2_addWord 29 = .ok (.getfield 18, 3) := by decide +kernel
theorem dX2_addWord_32 : decode cX2_addWord 32 = .ok (.getfield 42, 3) := by decide +kernel
theorem dX2_addWord_35 : decode cX2_addWord 35 = .ok (.if_icmp .ge 57, 3) := by decide +kernel
theorem dX2_addWord_38 : decode cX2_addWord 38 = .ok (.iload 5, 2) := by decide +kernel
theorem dX2_addWord_40 : decode cX2_addWord 40 = .ok (.iload 6, 2) := by decide +kernel
theorem dX2_addWord_42 : decode cX2_addWord 42 = .ok (.iadd, 1) := by decide +kernel
theorem dX2_addWord_43 : decode cX2_addWord 43 = .ok (.istore 7, 2) := by decide +kernel
theorem dX2_addWord_45 : decode cX2_addWord 45 = .ok (.iload 7, 2) := by decide +kernel
theorem dX2_addWord_47 : decode cX2_addWord 47 = .ok (.ifCond .lt 39, 3) := by decide +kernel
theorem dX2_addWord_50 : decode cX2_addWord 50 = .ok (.iload 7, 2) := by decide +kernel
theorem dX2_addWord_52 : decode cX2_addWord 52 = .ok (.aload_n 0, 1) := by decide +kernel
theorem dX2_addWord_53 : decode cX2_addWord 53 = .ok (.getfield 15, 3) := by decide +kernel
theorem dX2_addWord_56 : decode cX2_addWord 56 = .ok (.arraylength, 1) := by decide +kernel
theorem dX2_addWord_57 : decode cX2_addWord 57 = .ok (.if_icmp .ge 29, 3) := by decide +kernel
theorem dX2_addWord_60 : decode cX2_addWord 60 = .ok (.aload_n 0, 1) := by decide +kernel
theorem dX2_addWord_61 : decode cX2_addWord 61 = .ok (.getfield 15, 3) := by decide +kernel
theorem dX2_addWord_64 : decode cX2_addWord 64 = .ok (.iload 7, 2) := by decide +kernel
theorem dX2_addWord_66 : decode cX2_addWord 66 = .ok (.dup2, 1) := by decide +kernel
theorem dX2_addWord_67 : decode cX2_addWord 67 = .ok (.iaload, 1) := by decide +kernel
theorem dX2_addWord_68 : decode cX2_addWord 68 = .ok (.iload 4, 2) := by decide +kernel
theorem dX2_addWord_70 : decode cX2_addWord 70 = .ok (.aload_n 0, 1) := by decide +kernel
theorem dX2_addWord_71 : decode cX2_addWord 71 = .ok (.getfield 18, 3) := by decide +kernel
theorem dX2_addWord_74 : decode cX2_addWord 74 = .ok (.aload_n 1, 1) := by decide +kernel
theorem dX2_addWord_75 : decode cX2_addWord 75 = .ok (.getfield 51, 3) := by decide +kernel
theorem dX2_addWord_78 : decode cX2_addWord 78 = .ok (.iload 6, 2) := by decide +kernel
theorem dX2_addWord_80 : decode cX2_addWord 80 = .ok (.invokevirtual 54, 3) := by decide +kernel
theorem dX2_addWord_83 : decode cX2_addWord 83 = .ok (.imul, 1) := by decide +kernel
theorem dX2_addWord_84 : decode cX2_addWord 84 = .ok (.iadd, 1) := by decide +kernel
theorem dX2_addWord_85 : decode cX2_addWord 85 = .ok (.iastore, 1) := by decide +kernel
theorem dX2_addWord_86 : decode cX2_addWord 86 = .ok (.iinc 6 1, 3) := by decide +kernel
theorem dX2_addWord_89 : decode cX2_addWord 89 = .ok (.goto (-63), 3) := by decide +kernel
theorem dX2_addWord_92 : decode cX2_addWord 92 = .ok (.return_, 1) := by decide +kernel
theorem dX2_at_0 : decode cX2_at 0 = .ok (.iload_n 1, 1) := by decide +kernel
theorem dX2_at_1 : decode cX2_at 1 = .ok (.ifCond .ge 5, 3) := by decide +kernel
theorem dX2_at_4 : decode cX2_at 4 = .ok (.iconst 0, 1) := by decide +kernel
theorem dX2_at_5 : decode cX2_at 5 = .ok (.ireturn, 1) := by decide +kernel
theorem dX2_at_6 : decode cX2_at 6 = .ok (.aload_n 0, 1) := by decide +kernel
theorem dX2_at_7 : decode cX2_at 7 = .ok (.getfield 9, 3) := by decide +kernel
theorem dX2_at_10 : decode cX2_at 10 = .ok (.iload_n 1, 1) := by decide +kernel
theorem dX2_at_11 : decode cX2_at 11 = .ok (.bipush 20, 2) := by decide +kernel
theorem dX2_at_13 : decode cX2_at 13 = .ok (.irem, 1) := by decide +kernel
theorem dX2_at_14 : decode cX2_at 14 = .ok (.iaload, 1) := by decide +kernel
theorem dX2_at_15 : decode cX2_at 15 = .ok (.istore_n 2, 1) := by decide +kernel
theorem dX2_at_16 : decode cX2_at 16 = .ok (.iload_n 1, 1) := by decide +kernel
theorem dX2_at_17 : decode cX2_at 17 = .ok (.aload_n 0, 1) := by decide +kernel
theorem dX2_at_18 : decode cX2_at 18 = .ok (.getfield 15, 3) := by decide +kernel
theorem dX2_at_21 : decode cX2_at 21 = .ok (.arraylength, 1) := by decide +kernel
theorem dX2_at_22 : decode cX2_at 22 = .ok (.if_icmp .ge 14, 3) := by decide +kernel
theorem dX2_at_25 : decode cX2_at 25 = .ok (.aload_n 0, 1) := by decide +kernel
theorem dX2_at_26 : decode cX2_at 26 = .ok (.getfield 15, 3) := by decide +kernel
theorem dX2_at_29 : decode cX2_at 29 = .ok (.iload_n 1, 1) := by decide +kernel
theorem dX2_at_30 : decode cX2_at 30 = .ok (.iaload, 1) := by decide +kernel
theorem dX2_at_31 : decode cX2_at 31 = .ok (.iload_n 2, 1) := by decide +kernel
theorem dX2_at_32 : decode cX2_at 32 = .ok (.iadd, 1) := by decide +kernel
theorem dX2_at_33 : decode cX2_at 33 = .ok (.goto 4, 3) := by decide +kernel
theorem dX2_at_36 : decode cX2_at 36 = .ok (.iload_n 2, 1) := by decide +kernel
theorem dX2_at_37 : decode cX2_at 37 = .ok (.ireturn, 1) := by decide +kernel
set_option maxRecDepth 20000 in
theorem ggX2_heard_X2_at : GoodIn wsX2_heard wsX2_at := goodIn_r _ [7, 8, 9, 22, 23, 24] (by decide +kernel) (by decide +kernel)
set_option maxRecDepth 20000 in
theorem gX2_heard_X2_at : GoodIn wsX2_heard (wsV RX2 57 RX2 yX2_at wsX2_at) := goodIn_app (goodIn_of _ (by decide +kernel)) ggX2_heard_X2_at
set_option maxRecDepth 20000 in
theorem ggX2_heard_X0_chipAt : GoodIn wsX2_heard wsX0_chipAt := goodIn_r _ [14, 15, 16, 17, 18, 19, 20, 21] (by decide +kernel) (by decide +kernel)
set_option maxRecDepth 20000 in
theorem gX2_heard_X0_chipAt : GoodIn wsX2_heard (wsV RX2 54 RX0 yX0_chipAt wsX0_chipAt) := goodIn_app (goodIn_of _ (by decide +kernel)) ggX2_heard_X0_chipAt
theorem dX2_heard_0 : decode cX2_heard 0 = .ok (.iconst 0, 1) := by decide +kernel
theorem dX2_heard_1 : decode cX2_heard 1 = .ok (.istore_n 3, 1) := by decide +kernel
theorem dX2_heard_2 : decode cX2_heard 2 = .ok (.iconst 0, 1) := by decide +kernel
theorem dX2_heard_3 : decode cX2_heard 3 = .ok (.istore 4, 2) := by decide +kernel
theorem dX2_heard_5 : decode cX2_heard 5 = .ok (.iload 4, 2) := by decide +kernel
theorem dX2_heard_7 : decode cX2_heard 7 = .ok (.aload_n 0, 1) := by decide +kernel
theorem dX2_heard_8 : decode cX2_heard 8 = .ok (.getfield 18, 3) := by decide +kernel
theorem dX2_heard_11 : decode cX2_heard 11 = .ok (.getfield 42, 3) := by decide +kernel
theorem dX2_heard_14 : decode cX2_heard 14 = .ok (.if_icmp .ge 31, 3) := by decide +kernel
theorem dX2_heard_17 : decode cX2_heard 17 = .ok (.iload_n 3, 1) := by decide +kernel
theorem dX2_heard_18 : decode cX2_heard 18 = .ok (.aload_n 0, 1) := by decide +kernel
theorem dX2_heard_19 : decode cX2_heard 19 = .ok (.iload_n 2, 1) := by decide +kernel
theorem dX2_heard_20 : decode cX2_heard 20 = .ok (.iload 4, 2) := by decide +kernel
theorem dX2_heard_22 : decode cX2_heard 22 = .ok (.iadd, 1) := by decide +kernel
theorem dX2_heard_23 : decode cX2_heard 23 = .ok (.invokevirtual 57, 3) := by decide +kernel
theorem dX2_heard_26 : decode cX2_heard 26 = .ok (.aload_n 0, 1) := by decide +kernel
theorem dX2_heard_27 : decode cX2_heard 27 = .ok (.getfield 18, 3) := by decide +kernel
theorem dX2_heard_30 : decode cX2_heard 30 = .ok (.iload_n 1, 1) := by decide +kernel
theorem dX2_heard_31 : decode cX2_heard 31 = .ok (.iload 4, 2) := by decide +kernel
theorem dX2_heard_33 : decode cX2_heard 33 = .ok (.invokevirtual 54, 3) := by decide +kernel
theorem dX2_heard_36 : decode cX2_heard 36 = .ok (.imul, 1) := by decide +kernel
theorem dX2_heard_37 : decode cX2_heard 37 = .ok (.iadd, 1) := by decide +kernel
theorem dX2_heard_38 : decode cX2_heard 38 = .ok (.istore_n 3, 1) := by decide +kernel
theorem dX2_heard_39 : decode cX2_heard 39 = .ok (.iinc 4 1, 3) := by decide +kernel
theorem dX2_heard_42 : decode cX2_heard 42 = .ok (.goto (-37), 3) := by decide +kernel
theorem dX2_heard_45 : decode cX2_heard 45 = .ok (.iload_n 3, 1) := by decide +kernel
theorem dX2_heard_46 : decode cX2_heard 46 = .ok (.ireturn, 1) := by decide +kernel
set_option maxRecDepth 20000 in
theorem ggX2_heardWord_X1_start : GoodIn wsX2_heardWord wsX1_start := goodIn_r _ [8, 9, 33, 34, 35, 36, 37] (by decide +kernel) (by decide +kernel)
set_option maxRecDepth 20000 in
theorem gX2_heardWord_X1_start : GoodIn wsX2_heardWord (wsV RX2 47 RX1 yX1_start wsX1_start) := goodIn_app (goodIn_of _ (by decide +kernel)) ggX2_heardWord_X1_start
set_option maxRecDepth 20000 in
theorem ggX2_heardWord_X2_heard : GoodIn wsX2_heardWord wsX2_heard := goodIn_r _ [14, 2, 3, 15, 16, 17, 13, 18, 19, 20, 21, 22, 23, 24, 25, 26, 27, 28, 29, 30, 31, 32, 38, 39, 40, 41] (by decide +kernel) (by decide +kernel)
set_option maxRecDepth 20000 in
theorem gX2_heardWord_X2_heard : GoodIn wsX2_heardWord (wsV RX2 60 RX2 yX2_heard wsX2_heard) := goodIn_app (goodIn_of _ (by decide +kernel)) ggX2_heardWord_X2_heard
theorem dX2_heardWord_0 : decode cX2_heardWord 0 = .ok (.aload_n 0, 1) := by decide +kernel
theorem dX2_heardWord_1 : decode cX2_heardWord 1 = .ok (.aload_n 1, 1) := by decide +kernel
theorem dX2_heardWord_2 : decode cX2_heardWord 2 = .ok (.getfield 51, 3) := by decide +kernel
theorem dX2_heardWord_5 : decode cX2_heardWord 5 = .ok (.aload_n 1, 1) := by decide +kernel
theorem dX2_heardWord_6 : decode cX2_heardWord 6 = .ok (.iload_n 2, 1) := by decide +kernel
theorem dX2_heardWord_7 : decode cX2_heardWord 7 = .ok (.aload_n 0, 1) := by decide +kernel
theorem dX2_heardWord_8 : decode cX2_heardWord 8 = .ok (.getfield 18, 3) := by decide +kernel
theorem dX2_heardWord_11 : decode cX2_heardWord 11 = .ok (.getfield 42, 3) := by decide +kernel
theorem dX2_heardWord_14 : decode cX2_heardWord 14 = .ok (.invokevirtual 47, 3) := by decide +kernel
theorem dX2_heardWord_17 : decode cX2_heardWord 17 = .ok (.invokevirtual 60, 3) := by decide +kernel
theorem dX2_heardWord_20 : decode cX2_heardWord 20 = .ok (.ireturn, 1) := by decide +kernel
set_option maxRecDepth 20000 in
theorem ggX2_wrongWords_X2_heardWord : GoodIn wsX2_wrongWords wsX2_heardWord := goodIn_r _ [6, 7, 8, 9, 10, 11, 12, 13, 14, 15, 16, 17, 18, 5, 19, 20, 21, 22, 23, 24, 25, 26, 27, 28, 29, 30, 31, 32, 33, 34, 35, 36, 37, 47, 48, 49, 50, 51, 52, 53, 54, 55] (by decide +kernel) (by decide +kernel)
set_option maxRecDepth 20000 in
theorem gX2_wrongWords_X2_heardWord : GoodIn wsX2_wrongWords (wsV RX2 63 RX2 yX2_heardWord wsX2_heardWord) := goodIn_app (goodIn_of _ (by decide +kernel)) ggX2_wrongWords_X2_heardWord
set_option maxRecDepth 20000 in
theorem ggX2_wrongWords_X1_isWrong : GoodIn wsX2_wrongWords wsX1_isWrong := goodIn_r _ [41, 42, 43, 44, 13, 45, 46, 47, 48, 49, 50, 51] (by decide +kernel) (by decide +kernel)
set_option maxRecDepth 20000 in
theorem gX2_wrongWords_X1_isWrong : GoodIn wsX2_wrongWords (wsV RX2 67 RX1 yX1_isWrong wsX1_isWrong) := goodIn_app (goodIn_of _ (by decide +kernel)) ggX2_wrongWords_X1_isWrong
theorem dX2_wrongWords_0 : decode cX2_wrongWords 0 = .ok (.iconst 0, 1) := by decide +kernel
theorem dX2_wrongWords_1 : decode cX2_wrongWords 1 = .ok (.istore_n 2, 1) := by decide +kernel
theorem dX2_wrongWords_2 : decode cX2_wrongWords 2 = .ok (.iconst 0, 1) := by decide +kernel
theorem dX2_wrongWords_3 : decode cX2_wrongWords 3 = .ok (.istore_n 3, 1) := by decide +kernel
theorem dX2_wrongWords_4 : decode cX2_wrongWords 4 = .ok (.iload_n 3, 1) := by decide +kernel
theorem dX2_wrongWords_5 : decode cX2_wrongWords 5 = .ok (.aload_n 1, 1) := by decide +kernel
theorem dX2_wrongWords_6 : decode cX2_wrongWords 6 = .ok (.getfield 28, 3) := by decide +kernel
theorem dX2_wrongWords_9 : decode cX2_wrongWords 9 = .ok (.if_icmp .ge 26, 3) := by decide +kernel
theorem dX2_wrongWords_12 : decode cX2_wrongWords 12 = .ok (.aload_n 1, 1) := by decide +kernel
theorem dX2_wrongWords_13 : decode cX2_wrongWords 13 = .ok (.iload_n 3, 1) := by decide +kernel
theorem dX2_wrongWords_14 : decode cX2_wrongWords 14 = .ok (.aload_n 0, 1) := by decide +kernel
theorem dX2_wrongWords_15 : decode cX2_wrongWords 15 = .ok (.aload_n 1, 1) := by decide +kernel
theorem dX2_wrongWords_16 : decode cX2_wrongWords 16 = .ok (.iload_n 3, 1) := by decide +kernel
theorem dX2_wrongWords_17 : decode cX2_wrongWords 17 = .ok (.invokevirtual 63, 3) := by decide +kernel
theorem dX2_wrongWords_20 : decode cX2_wrongWords 20 = .ok (.invokevirtual 67, 3) := by decide +kernel
theorem dX2_wrongWords_23 : decode cX2_wrongWords 23 = .ok (.ifCond .eq 6, 3) := by decide +kernel
theorem dX2_wrongWords_26 : decode cX2_wrongWords 26 = .ok (.iinc 2 1, 3) := by decide +kernel
theorem dX2_wrongWords_29 : decode cX2_wrongWords 29 = .ok (.iinc 3 1, 3) := by decide +kernel
theorem dX2_wrongWords_32 : decode cX2_wrongWords 32 = .ok (.goto (-28), 3) := by decide +kernel
theorem dX2_wrongWords_35 : decode cX2_wrongWords 35 = .ok (.iload_n 2, 1) := by decide +kernel
theorem dX2_wrongWords_36 : decode cX2_wrongWords 36 = .ok (.ireturn, 1) := by decide +kernel
set_option maxRecDepth 20000 in
theorem ggX2_faintest_X2_heardWord : GoodIn wsX2_faintest wsX2_heardWord := goodIn_r _ [10, 11, 12, 13, 14, 15, 16, 17, 18, 19, 20, 21, 22, 9, 23, 24, 25, 26, 27, 28, 29, 30, 31, 32, 33, 34, 35, 36, 37, 38, 39, 40, 41, 42, 43, 44, 45, 46, 47, 48, 49, 50] (by decide +kernel) (by decide +kernel)
set_option maxRecDepth 20000 in
theorem gX2_faintest_X2_heardWord : GoodIn wsX2_faintest (wsV RX2 63 RX2 yX2_heardWord wsX2_heardWord) := goodIn_app (goodIn_of _ (by decide +kernel)) ggX2_faintest_X2_heardWord
theorem dX2_faintest_0 : decode cX2_faintest 0 = .ok (.iconst 0, 1) := by decide +kernel
theorem dX2_faintest_1 : decode cX2_faintest 1 = .ok (.istore_n 2, 1) := by decide +kernel
theorem dX2_faintest_2 : decode cX2_faintest 2 = .ok (.iconst 0, 1) := by decide +kernel
theorem dX2_faintest_3 : decode cX2_faintest 3 = .ok (.istore_n 3, 1) := by decide +kernel
theorem dX2_faintest_4 : decode cX2_faintest 4 = .ok (.iload_n 3, 1) := by decide +kernel
theorem dX2_faintest_5 : decode cX2_faintest 5 = .ok (.aload_n 1, 1) := by decide +kernel
theorem dX2_faintest_6 : decode cX2_faintest 6 = .ok (.getfield 28, 3) := by decide +kernel
theorem dX2_faintest_9 : decode cX2_faintest 9 = .ok (.if_icmp .ge 33, 3) := by decide +kernel
theorem dX2_faintest_12 : decode cX2_faintest 12 = .ok (.aload_n 0, 1) := by decide +kernel
theorem dX2_faintest_13 : decode cX2_faintest 13 = .ok (.aload_n 1, 1) := by decide +kernel
theorem dX2_faintest_14 : decode cX2_faintest 14 = .ok (.iload_n 3, 1) := by decide +kernel
theorem dX2_faintest_15 : decode cX2_faintest 15 = .ok (.invokevirtual 63, 3) := by decide +kernel
theorem dX2_faintest_18 : decode cX2_faintest 18 = .ok (.invokestatic 71, 3) := by decide +kernel
theorem dX2_faintest_21 : decode cX2_faintest 21 = .ok (.istore 4, 2) := by decide +kernel
theorem dX2_faintest_23 : decode cX2_faintest 23 = .ok (.iload_n 3, 1) := by decide +kernel
theorem dX2_faintest_24 : decode cX2_faintest 24 = .ok (.ifCond .eq 9, 3) := by decide +kernel
theorem dX2_faintest_27 : decode cX2_faintest 27 = .ok (.iload 4, 2) := by decide +kernel
theorem dX2_faintest_29 : decode cX2_faintest 29 = .ok (.iload_n 2, 1) := by decide +kernel
theorem dX2_faintest_30 : decode cX2_faintest 30 = .ok (.if_icmp .ge 6, 3) := by decide +kernel
theorem dX2_faintest_33 : decode cX2_faintest 33 = .ok (.iload 4, 2) := by decide +kernel
theorem dX2_faintest_35 : decode cX2_faintest 35 = .ok (.istore_n 2, 1) := by decide +kernel
theorem dX2_faintest_36 : decode cX2_faintest 36 = .ok (.iinc 3 1, 3) := by decide +kernel
theorem dX2_faintest_39 : decode cX2_faintest 39 = .ok (.goto (-35), 3) := by decide +kernel
theorem dX2_faintest_42 : decode cX2_faintest 42 = .ok (.iload_n 2, 1) := by decide +kernel
theorem dX2_faintest_43 : decode cX2_faintest 43 = .ok (.ireturn, 1) := by decide +kernel
set_option maxRecDepth 20000 in
theorem ggX2_highest_X2_at : GoodIn wsX2_highest wsX2_at := goodIn_r _ [12, 13, 14, 15, 16, 17] (by decide +kernel) (by decide +kernel)
set_option maxRecDepth 20000 in
theorem gX2_highest_X2_at : GoodIn wsX2_highest (wsV RX2 57 RX2 yX2_at wsX2_at) := goodIn_app (goodIn_of _ (by decide +kernel)) ggX2_highest_X2_at
theorem dX2_highest_0 : decode cX2_highest 0 = .ok (.iconst 0, 1) := by decide +kernel
theorem dX2_highest_1 : decode cX2_highest 1 = .ok (.istore_n 2, 1) := by decide +kernel
theorem dX2_highest_2 : decode cX2_highest 2 = .ok (.iconst 0, 1) := by decide +kernel
theorem dX2_highest_3 : decode cX2_highest 3 = .ok (.istore_n 3, 1) := by decide +kernel
theorem dX2_highest_4 : decode cX2_highest 4 = .ok (.iload_n 3, 1) := by decide +kernel
theorem dX2_highest_5 : decode cX2_highest 5 = .ok (.iload_n 1, 1) := by decide +kernel
theorem dX2_highest_6 : decode cX2_highest 6 = .ok (.if_icmp .ge 22, 3) := by decide +kernel
theorem dX2_highest_9 : decode cX2_highest 9 = .ok (.iload_n 2, 1) := by decide +kernel
theorem dX2_highest_10 : decode cX2_highest 10 = .ok (.aload_n 0, 1) := by decide +kernel
theorem dX2_highest_11 : decode cX2_highest 11 = .ok (.iload_n 3, 1) := by decide +kernel
theorem dX2_highest_12 : decode cX2_highest 12 = .ok (.invokevirtual 57, 3) := by decide +kernel
theorem dX2_highest_15 : decode cX2_highest 15 = .ok (.invokestatic 71, 3) := by decide +kernel
theorem dX2_highest_18 : decode cX2_highest 18 = .ok (.invokestatic 76, 3) := by decide +kernel
theorem dX2_highest_21 : decode cX2_highest 21 = .ok (.istore_n 2, 1) := by decide +kernel
theorem dX2_highest_22 : decode cX2_highest 22 = .ok (.iinc 3 1, 3) := by decide +kernel
theorem dX2_highest_25 : decode cX2_highest 25 = .ok (.goto (-21), 3) := by decide +kernel
theorem dX2_highest_28 : decode cX2_highest 28 = .ok (.iload_n 2, 1) := by decide +kernel
theorem dX2_highest_29 : decode cX2_highest 29 = .ok (.ireturn, 1) := by decide +kernel
set_option maxRecDepth 20000 in
theorem ggX2_sum_X2_at : GoodIn wsX2_sum wsX2_at := goodIn_r _ [5, 6, 7, 8, 9, 10] (by decide +kernel) (by decide +kernel)
set_option maxRecDepth 20000 in
theorem gX2_sum_X2_at : GoodIn wsX2_sum (wsV RX2 57 RX2 yX2_at wsX2_at) := goodIn_app (goodIn_of _ (by decide +kernel)) ggX2_sum_X2_at
theorem dX2_sum_0 : decode cX2_sum 0 = .ok (.iconst 0, 1) := by decide +kernel
theorem dX2_sum_1 : decode cX2_sum 1 = .ok (.istore_n 2, 1) := by decide +kernel
theorem dX2_sum_2 : decode cX2_sum 2 = .ok (.iconst 0, 1) := by decide +kernel
theorem dX2_sum_3 : decode cX2_sum 3 = .ok (.istore_n 3, 1) := by decide +kernel
theorem dX2_sum_4 : decode cX2_sum 4 = .ok (.iload_n 3, 1) := by decide +kernel
theorem dX2_sum_5 : decode cX2_sum 5 = .ok (.iload_n 1, 1) := by decide +kernel
theorem dX2_sum_6 : decode cX2_sum 6 = .ok (.if_icmp .ge 17, 3) := by decide +kernel
theorem dX2_sum_9 : decode cX2_sum 9 = .ok (.iload_n 2, 1) := by decide +kernel
theorem dX2_sum_10 : decode cX2_sum 10 = .ok (.aload_n 0, 1) := by decide +kernel
theorem dX2_sum_11 : decode cX2_sum 11 = .ok (.iload_n 3, 1) := by decide +kernel
theorem dX2_sum_12 : decode cX2_sum 12 = .ok (.invokevirtual 57, 3) := by decide +kernel
theorem dX2_sum_15 : decode cX2_sum 15 = .ok (.iadd, 1) := by decide +kernel
theorem dX2_sum_16 : decode cX2_sum 16 = .ok (.istore_n 2, 1) := by decide +kernel
theorem dX2_sum_17 : decode cX2_sum 17 = .ok (.iinc 3 1, 3) := by decide +kernel
theorem dX2_sum_20 : decode cX2_sum 20 = .ok (.goto (-16), 3) := by decide +kernel
theorem dX2_sum_23 : decode cX2_sum 23 = .ok (.iload_n 2, 1) := by decide +kernel
theorem dX2_sum_24 : decode cX2_sum 24 = .ok (.ireturn, 1) := by decide +kernel
set_option maxRecDepth 20000 in
theorem ggX3_init_X0_init : GoodIn wsX3_init wsX0_init := goodIn_r _ [17, 18, 2, 3, 19, 43] (by decide +kernel) (by decide +kernel)
set_option maxRecDepth 20000 in
theorem gX3_init_X0_init_n11 : GoodIn wsX3_init (wsX0_init) := ggX3_init_X0_init
set_option maxRecDepth 20000 in
theorem ggX3_init_X2_init : GoodIn wsX3_init wsX2_init := goodIn_r _ [22, 23, 2, 3, 24, 25, 26, 27, 47, 48, 49] (by decide +kernel) (by decide +kernel)
set_option maxRecDepth 20000 in
theorem gX3_init_X2_init : GoodIn wsX3_init (wsX2_init) := ggX3_init_X2_init
set_option maxRecDepth 20000 in
theorem ggX3_init_Jx4a65c_init_da8c8 : GoodIn wsX3_init wsJx4a65c_init_da8c8 := goodIn_r _ [30, 31, 32, 33, 34, 35, 36, 37, 38, 39, 40, 41, 42, 2, 3, 50, 51, 52] (by decide +kernel) (by decide +kernel)
set_option maxRecDepth 20000 in
theorem gX3_init_Jx4a65c_init_da8c8 : GoodIn wsX3_init (wsJx4a65c_init_da8c8) := ggX3_init_Jx4a65c_init_da8c8
theorem dX3_init_0 : decode cX3_init 0 = .ok (.aload_n 0, 1) := by decide +kernel
theorem dX3_init_1 : decode cX3_init 1 = .ok (.invokespecial 3, 3) := by decide +kernel
theorem dX3_init_4 : decode cX3_init 4 = .ok (.aload_n 0, 1) := by decide +kernel
theorem dX3_init_5 : decode cX3_init 5 = .ok (.new 9, 3) := by decide +kernel
theorem dX3_init_8 : decode cX3_init 8 = .ok (.dup, 1) := by decide +kernel
theorem dX3_init_9 : decode cX3_init 9 = .ok (.invokespecial 11, 3) := by decide +kernel
theorem dX3_init_12 : decode cX3_init 12 = .ok (.putfield 12, 3) := by decide +kernel
theorem dX3_init_15 : decode cX3_init 15 = .ok (.aload_n 0, 1) := by decide +kernel
theorem dX3_init_16 : decode cX3_init 16 = .ok (.new 16, 3) := by decide +kernel
theorem dX3_init_19 : decode cX3_init 19 = .ok (.dup, 1) := by decide +kernel
theorem dX3_init_20 : decode cX3_init 20 = .ok (.aload_n 0, 1) := by decide +kernel
theorem dX3_init_21 : decode cX3_init 21 = .ok (.getfield 12, 3) := by decide +kernel
theorem dX3_init_24 : decode cX3_init 24 = .ok (.invokespecial 18, 3) := by decide +kernel
theorem dX3_init_27 : decode cX3_init 27 = .ok (.putfield 21, 3) := by decide +kernel
theorem dX3_init_30 : decode cX3_init 30 = .ok (.aload_n 0, 1) := by decide +kernel
theorem dX3_init_31 : decode cX3_init 31 = .ok (.new 25, 3) := by decide +kernel
theorem dX3_init_34 : decode cX3_init 34 = .ok (.dup, 1) := by decide +kernel
theorem dX3_init_35 : decode cX3_init 35 = .ok (.invokespecial 27, 3) := by decide +kernel
theorem dX3_init_38 : decode cX3_init 38 = .ok (.putfield 28, 3) := by decide +kernel
theorem dX3_init_41 : decode cX3_init 41 = .ok (.return_, 1) := by decide +kernel
set_option maxRecDepth 20000 in
theorem ggX3_setCodes_Jx4a65c_clear_da8c8 : GoodIn wsX3_setCodes wsJx4a65c_clear_da8c8 := goodIn_r _ [11, 12, 13, 14, 15, 30, 31, 32] (by decide +kernel) (by decide +kernel)
set_option maxRecDepth 20000 in
theorem gX3_setCodes_Jx4a65c_clear_da8c8 : GoodIn wsX3_setCodes (wsV RX3 43 RJx4a65c yJx4a65c_clear_da8c8 wsJx4a65c_clear_da8c8) := goodIn_app (goodIn_of _ (by decide +kernel)) ggX3_setCodes_Jx4a65c_clear_da8c8
set_option maxRecDepth 20000 in
theorem ggX3_setCodes_X2_silence : GoodIn wsX3_setCodes wsX2_silence := goodIn_r _ [20, 21, 22, 23, 24, 25, 33, 34, 35] (by decide +kernel) (by decide +kernel)
set_option maxRecDepth 20000 in
theorem gX3_setCodes_X2_silence : GoodIn wsX3_setCodes (wsV RX3 46 RX2 yX2_silence wsX2_silence) := goodIn_app (goodIn_of _ (by decide +kernel)) ggX3_setCodes_X2_silence
theorem dX3_setCodes_0 : decode cX3_setCodes 0 = .ok (.iload_n 1, 1) := by decide +kernel
theorem dX3_setCodes_1 : decode cX3_setCodes 1 = .ok (.ifCond .lt 8, 3) := by decide +kernel
theorem dX3_setCodes_4 : decode cX3_setCodes 4 = .ok (.iload_n 1, 1) := by decide +kernel
theorem dX3_setCodes_5 : decode cX3_setCodes 5 = .ok (.iconst 4, 1) := by decide +kernel
theorem dX3_setCodes_6 : decode cX3_setCodes 6 = .ok (.if_icmp .le 13, 3) := by decide +kernel
theorem dX3_setCodes_9 : decode cX3_setCodes 9 = .ok (.new 32, 3) := by decide +kernel
theorem dX3_setCodes_12 : decode cX3_setCodes 12 = .ok (.dup, 1) := by decide +kernel
theorem dX3_setCodes_13 : decode cX3_setCodes 13 = .ok (.ldc 34, 2) := by decide +kernel
theorem dX3_setCodes_15 : decode cX3_setCodes 15 = .ok (.invokespecial 36, 3) := by decide +kernel
theorem dX3_setCodes_18 : decode cX3_setCodes 18 = .ok (.athrow, 1) := by decide +kernel
theorem dX3_setCodes_19 : decode cX3_setCodes 19 = .ok (.aload_n 0, 1) := by decide +kernel
theorem dX3_setCodes_20 : decode cX3_setCodes 20 = .ok (.getfield 12, 3) := by decide +kernel
theorem dX3_setCodes_23 : decode cX3_setCodes 23 = .ok (.getfield 39, 3) := by decide +kernel
theorem dX3_setCodes_26 : decode cX3_setCodes 26 = .ok (.istore_n 2, 1) := by decide +kernel
theorem dX3_setCodes_27 : decode cX3_setCodes 27 = .ok (.aload_n 0, 1) := by decide +kernel
theorem dX3_setCodes_28 : decode cX3_setCodes 28 = .ok (.getfield 12, 3) := by decide +kernel
theorem dX3_setCodes_31 : decode cX3_setCodes 31 = .ok (.iconst 1, 1) := by decide +kernel
theorem dX3_setCodes_32 : decode cX3_setCodes 32 = .ok (.iload_n 1, 1) := by decide +kernel
theorem dX3_setCodes_33 : decode cX3_setCodes 33 = .ok (.ishl, 1) := by decide +kernel
theorem dX3_setCodes_34 : decode cX3_setCodes 34 = .ok (.putfield 39, 3) := by decide +kernel
theorem dX3_setCodes_37 : decode cX3_setCodes 37 = .ok (.aload_n 0, 1) := by decide +kernel
theorem dX3_setCodes_38 : decode cX3_setCodes 38 = .ok (.getfield 28, 3) := by decide +kernel
theorem dX3_setCodes_41 : decode cX3_setCodes 41 = .ok (.invokevirtual 43, 3) := by decide +kernel
theorem dX3_setCodes_44 : decode cX3_setCodes 44 = .ok (.aload_n 0, 1) := by decide +kernel
theorem dX3_setCodes_45 : decode cX3_setCodes 45 = .ok (.getfield 21, 3) := by decide +kernel
theorem dX3_setCodes_48 : decode cX3_setCodes 48 = .ok (.invokevirtual 46, 3) := by decide +kernel
theorem dX3_setCodes_51 : decode cX3_setCodes 51 = .ok (.iload_n 2, 1) := by decide +kernel
theorem dX3_setCodes_52 : decode cX3_setCodes 52 = .ok (.ireturn, 1) := by decide +kernel
set_option maxRecDepth 20000 in
theorem ggX3_hill_X3_checkCode : GoodIn wsX3_hill wsX3_checkCode := goodIn_ca (goodIn_r _ [11, 12, 13, 14, 15, 16, 17, 18, 19, 20, 99, 100, 101, 107] (by decide +kernel) (by decide +kernel)) (goodIn_sub (fun _ h => List.mem_cons_of_mem _ (List.mem_append_left _ (List.mem_append_right _ h))) (by decide +kernel))
set_option maxRecDepth 20000 in
theorem gX3_hill_X3_checkCode : GoodIn wsX3_hill (wsV RX3 49 RX3 yX3_checkCode wsX3_checkCode) := goodIn_app (goodIn_of _ (by decide +kernel)) ggX3_hill_X3_checkCode
set_option maxRecDepth 20000 in
theorem ggX3_hill_X3_checkStrength : GoodIn wsX3_hill wsX3_checkStrength := goodIn_ca (goodIn_r _ [24, 25, 26] (by decide +kernel) (by decide +kernel)) (goodIn_sub (fun _ h => List.mem_cons_of_mem _ (List.mem_append_right _ h)) (by decide +kernel))
set_option maxRecDepth 20000 in
theorem gX3_hill_X3_checkStrength : GoodIn wsX3_hill (wsV RX3 53 RX3 yX3_checkStrength wsX3_checkStrength) := goodIn_app (goodIn_of _ (by decide +kernel)) ggX3_hill_X3_checkStrength
set_option maxRecDepth 20000 in
theorem ggX3_hill_Jx4a65c_size_8abf5 : GoodIn wsX3_hill wsJx4a65c_size_8abf5 := goodIn_r _ [31, 32, 108, 109, 110] (by decide +kernel) (by decide +kernel)
set_option maxRecDepth 20000 in
theorem gX3_hill_Jx4a65c_size_8abf5 : GoodIn wsX3_hill (wsV RX3 56 RJx4a65c yJx4a65c_size_8abf5 wsJx4a65c_size_8abf5) := goodIn_app (goodIn_of _ (by decide +kernel)) ggX3_hill_Jx4a65c_size_8abf5
set_option maxRecDepth 20000 in
theorem ggX3_hill_X1_init : GoodIn wsX3_hill wsX1_init := goodIn_r _ [35, 36, 37, 38, 39, 40, 41, 42, 43, 44, 102, 103, 104, 105, 106] (by decide +kernel) (by decide +kernel)
set_option maxRecDepth 20000 in
theorem gX3_hill_X1_init : GoodIn wsX3_hill (wsX1_init) := ggX3_hill_X1_init
set_option maxRecDepth 20000 in
theorem ggX3_hill_Jx4a65c_add_9ea2d : GoodIn wsX3_hill wsJx4a65c_add_9ea2d := goodIn_r _ [48, 49, 50, 51, 32, 52, 53, 54, 30, 55, 56, 57, 58, 59, 60, 61, 62, 63, 64, 65, 66, 67, 68, 69, 70, 71, 72, 73, 74, 75, 76, 77, 78, 79, 80, 81, 82, 83, 84, 85, 86, 87, 88, 89, 90, 91, 92, 93, 94, 95, 96, 97, 98, 108, 109, 110] (by decide +kernel) (by decide +kernel)
set_option maxRecDepth 20000 in
theorem gX3_hill_Jx4a65c_add_9ea2d : GoodIn wsX3_hill (wsV RX3 70 RJx4a65c yJx4a65c_add_9ea2d wsJx4a65c_add_9ea2d) := goodIn_app (goodIn_of _ (by decide +kernel)) ggX3_hill_Jx4a65c_add_9ea2d
theorem dX3_hill_0 : decode cX3_hill 0 = .ok (.aload_n 0, 1) := by decide +kernel
theorem dX3_hill_1 : decode cX3_hill 1 = .ok (.iload_n 1, 1) := by decide +kernel
theorem dX3_hill_2 : decode cX3_hill 2 = .ok (.invokevirtual 49, 3) := by decide +kernel
theorem dX3_hill_5 : decode cX3_hill 5 = .ok (.aload_n 0, 1) := by decide +kernel
theorem dX3_hill_6 : decode cX3_hill 6 = .ok (.iload_n 2, 1) := by decide +kernel
theorem dX3_hill_7 : decode cX3_hill 7 = .ok (.invokevirtual 53, 3) := by decide +kernel
theorem dX3_hill_10 : decode cX3_hill 10 = .ok (.aload_n 0, 1) := by decide +kernel
theorem dX3_hill_11 : decode cX3_hill 11 = .ok (.getfield 28, 3) := by decide +kernel
theorem dX3_hill_14 : decode cX3_hill 14 = .ok (.invokevirtual 56, 3) := by decide +kernel
theorem dX3_hill_17 : decode cX3_hill 17 = .ok (.bipush 8, 2) := by decide +kernel
theorem dX3_hill_19 : decode cX3_hill 19 = .ok (.if_icmp .lt 13, 3) := by decide +kernel
theorem dX3_hill_22 : decode cX3_hill 22 = .ok (.new 60, 3) := by decide +kernel
theorem dX3_hill_25 : decode cX3_hill 25 = .ok (.dup, 1) := by decide +kernel
theorem dX3_hill_26 : decode cX3_hill 26 = .ok (.ldc 62, 2) := by decide +kernel
theorem dX3_hill_28 : decode cX3_hill 28 = .ok (.invokespecial 64, 3) := by decide +kernel
theorem dX3_hill_31 : decode cX3_hill 31 = .ok (.athrow, 1) := by decide +kernel
theorem dX3_hill_32 : decode cX3_hill 32 = .ok (.aload_n 0, 1) := by decide +kernel
theorem dX3_hill_33 : decode cX3_hill 33 = .ok (.getfield 28, 3) := by decide +kernel
