theorem dX3_setStorm_0 : decode cX3_setStorm 0 = .ok (.iload_n 1, 1) := by decide +kernel
theorem dX3_setStorm_1 : decode cX3_setStorm 1 = .ok (.ifCond .lt 9, 3) := by decide +kernel
theorem dX3_setStorm_4 : decode cX3_setStorm 4 = .ok (.iload_n 1, 1) := by decide +kernel
theorem dX3_setStorm_5 : decode cX3_setStorm 5 = .ok (.bipush 20, 2) := by decide +kernel
theorem dX3_setStorm_7 : decode cX3_setStorm 7 = .ok (.if_icmp .lt 13, 3) := by decide +kernel
theorem dX3_setStorm_10 : decode cX3_setStorm 10 = .ok (.new 106, 3) := by decide +kernel
theorem dX3_setStorm_13 : decode cX3_setStorm 13 = .ok (.dup, 1) := by decide +kernel
theorem dX3_setStorm_14 : decode cX3_setStorm 14 = .ok (.ldc 108, 2) := by decide +kernel
theorem dX3_setStorm_16 : decode cX3_setStorm 16 = .ok (.invokespecial 110, 3) := by decide +kernel
theorem dX3_setStorm_19 : decode cX3_setStorm 19 = .ok (.athrow, 1) := by decide +kernel
theorem dX3_setStorm_20 : decode cX3_setStorm 20 = .ok (.iload_n 2, 1) := by decide +kernel
theorem dX3_setStorm_21 : decode cX3_setStorm 21 = .ok (.bipush (-99), 2) := by decide +kernel
theorem dX3_setStorm_23 : decode cX3_setStorm 23 = .ok (.if_icmp .lt 9, 3) := by decide +kernel
theorem dX3_setStorm_26 : decode cX3_setStorm 26 = .ok (.iload_n 2, 1) := by decide +kernel
theorem dX3_setStorm_27 : decode cX3_setStorm 27 = .ok (.bipush 99, 2) := by decide +kernel
theorem dX3_setStorm_29 : decode cX3_setStorm 29 = .ok (.if_icmp .le 13, 3) := by decide +kernel
theorem dX3_setStorm_32 : decode cX3_setStorm 32 = .ok (.new 32, 3) := by decide +kernel
theorem dX3_setStorm_35 : decode cX3_setStorm 35 = .ok (.dup, 1) := by decide +kernel
theorem dX3_setStorm_36 : decode cX3_setStorm 36 = .ok (.ldc 111, 2) := by decide +kernel
theorem dX3_setStorm_38 : decode cX3_setStorm 38 = .ok (.invokespecial 36, 3) := by decide +kernel
theorem dX3_setStorm_41 : decode cX3_setStorm 41 = .ok (.athrow, 1) := by decide +kernel
theorem dX3_setStorm_42 : decode cX3_setStorm 42 = .ok (.aload_n 0, 1) := by decide +kernel
theorem dX3_setStorm_43 : decode cX3_setStorm 43 = .ok (.getfield 21, 3) := by decide +kernel
theorem dX3_setStorm_46 : decode cX3_setStorm 46 = .ok (.getfield 113, 3) := by decide +kernel
theorem dX3_setStorm_49 : decode cX3_setStorm 49 = .ok (.iload_n 1, 1) := by decide +kernel
theorem dX3_setStorm_50 : decode cX3_setStorm 50 = .ok (.iaload, 1) := by decide +kernel
theorem dX3_setStorm_51 : decode cX3_setStorm 51 = .ok (.istore_n 3, 1) := by decide +kernel
theorem dX3_setStorm_52 : decode cX3_setStorm 52 = .ok (.aload_n 0, 1) := by decide +kernel
theorem dX3_setStorm_53 : decode cX3_setStorm 53 = .ok (.getfield 21, 3) := by decide +kernel
theorem dX3_setStorm_56 : decode cX3_setStorm 56 = .ok (.getfield 113, 3) := by decide +kernel
theorem dX3_setStorm_59 : decode cX3_setStorm 59 = .ok (.iload_n 1, 1) := by decide +kernel
theorem dX3_setStorm_60 : decode cX3_setStorm 60 = .ok (.iload_n 2, 1) := by decide +kernel
theorem dX3_setStorm_61 : decode cX3_setStorm 61 = .ok (.iastore, 1) := by decide +kernel
theorem dX3_setStorm_62 : decode cX3_setStorm 62 = .ok (.iload_n 3, 1) := by decide +kernel
theorem dX3_setStorm_63 : decode cX3_setStorm 63 = .ok (.ireturn, 1) := by decide +kernel
set_option maxRecDepth 20000 in
theorem ggX3_chip_X3_checkCode : GoodIn wsX3_chip wsX3_checkCode := goodIn_ca (goodIn_r _ [8, 1, 2, 3, 9, 10, 11, 12, 13, 14, 26, 27, 28, 29] (by decide +kernel) (by decide +kernel)) (goodIn_sub (fun _ h => List.mem_cons_of_mem _ (List.mem_append_right _ h)) (by decide +kernel))
set_option maxRecDepth 20000 in
theorem gX3_chip_X3_checkCode : GoodIn wsX3_chip (wsV RX3 49 RX3 yX3_checkCode wsX3_checkCode) := goodIn_app (goodIn_of _ (by decide +kernel)) ggX3_chip_X3_checkCode
set_option maxRecDepth 20000 in
theorem ggX3_chip_X0_has : GoodIn wsX3_chip wsX0_has := goodIn_r _ [13, 14, 29] (by decide +kernel) (by decide +kernel)
set_option maxRecDepth 20000 in
theorem gX3_chip_X0_has : GoodIn wsX3_chip (wsV RX3 117 RX0 yX0_has wsX0_has) := goodIn_app (goodIn_of _ (by decide +kernel)) ggX3_chip_X0_has
set_option maxRecDepth 20000 in
theorem ggX3_chip_X0_chipAt : GoodIn wsX3_chip wsX0_chipAt := goodIn_r _ [18, 19, 20, 21, 22, 23, 24, 25] (by decide +kernel) (by decide +kernel)
set_option maxRecDepth 20000 in
theorem gX3_chip_X0_chipAt : GoodIn wsX3_chip (wsV RX3 123 RX0 yX0_chipAt wsX0_chipAt) := goodIn_app (goodIn_of _ (by decide +kernel)) ggX3_chip_X0_chipAt
theorem dX3_chip_0 : decode cX3_chip 0 = .ok (.aload_n 0, 1) := by decide +kernel
theorem dX3_chip_1 : decode cX3_chip 1 = .ok (.iload_n 1, 1) := by decide +kernel
theorem dX3_chip_2 : decode cX3_chip 2 = .ok (.invokevirtual 49, 3) := by decide +kernel
theorem dX3_chip_5 : decode cX3_chip 5 = .ok (.aload_n 0, 1) := by decide +kernel
theorem dX3_chip_6 : decode cX3_chip 6 = .ok (.getfield 12, 3) := by decide +kernel
theorem dX3_chip_9 : decode cX3_chip 9 = .ok (.iload_n 2, 1) := by decide +kernel
theorem dX3_chip_10 : decode cX3_chip 10 = .ok (.invokevirtual 117, 3) := by decide +kernel
theorem dX3_chip_13 : decode cX3_chip 13 = .ok (.ifCond .ne 13, 3) := by decide +kernel
theorem dX3_chip_16 : decode cX3_chip 16 = .ok (.new 106, 3) := by decide +kernel
theorem dX3_chip_19 : decode cX3_chip 19 = .ok (.dup, 1) := by decide +kernel
theorem dX3_chip_20 : decode cX3_chip 20 = .ok (.ldc 121, 2) := by decide +kernel
theorem dX3_chip_22 : decode cX3_chip 22 = .ok (.invokespecial 110, 3) := by decide +kernel
theorem dX3_chip_25 : decode cX3_chip 25 = .ok (.athrow, 1) := by decide +kernel
theorem dX3_chip_26 : decode cX3_chip 26 = .ok (.aload_n 0, 1) := by decide +kernel
theorem dX3_chip_27 : decode cX3_chip 27 = .ok (.getfield 12, 3) := by decide +kernel
theorem dX3_chip_30 : decode cX3_chip 30 = .ok (.iload_n 1, 1) := by decide +kernel
theorem dX3_chip_31 : decode cX3_chip 31 = .ok (.iload_n 2, 1) := by decide +kernel
theorem dX3_chip_32 : decode cX3_chip 32 = .ok (.invokevirtual 123, 3) := by decide +kernel
theorem dX3_chip_35 : decode cX3_chip 35 = .ok (.ireturn, 1) := by decide +kernel
set_option maxRecDepth 20000 in
theorem ggX3_sky_X3_checkTime : GoodIn wsX3_sky wsX3_checkTime := goodIn_ca (goodIn_r _ [6, 7, 8] (by decide +kernel) (by decide +kernel)) (goodIn_sub (fun _ h => List.mem_cons_of_mem _ (List.mem_append_right _ h)) (by decide +kernel))
set_option maxRecDepth 20000 in
theorem gX3_sky_X3_checkTime : GoodIn wsX3_sky (wsV RX3 127 RX3 yX3_checkTime wsX3_checkTime) := goodIn_app (goodIn_of _ (by decide +kernel)) ggX3_sky_X3_checkTime
set_option maxRecDepth 20000 in
theorem ggX3_sky_X2_at : GoodIn wsX3_sky wsX2_at := goodIn_r _ [13, 14, 15, 19, 20, 21] (by decide +kernel) (by decide +kernel)
set_option maxRecDepth 20000 in
theorem gX3_sky_X2_at : GoodIn wsX3_sky (wsV RX3 130 RX2 yX2_at wsX2_at) := goodIn_app (goodIn_of _ (by decide +kernel)) ggX3_sky_X2_at
theorem dX3_sky_0 : decode cX3_sky 0 = .ok (.aload_n 0, 1) := by decide +kernel
theorem dX3_sky_1 : decode cX3_sky 1 = .ok (.iload_n 1, 1) := by decide +kernel
theorem dX3_sky_2 : decode cX3_sky 2 = .ok (.invokevirtual 127, 3) := by decide +kernel
theorem dX3_sky_5 : decode cX3_sky 5 = .ok (.aload_n 0, 1) := by decide +kernel
theorem dX3_sky_6 : decode cX3_sky 6 = .ok (.getfield 21, 3) := by decide +kernel
theorem dX3_sky_9 : decode cX3_sky 9 = .ok (.iload_n 1, 1) := by decide +kernel
theorem dX3_sky_10 : decode cX3_sky 10 = .ok (.invokevirtual 130, 3) := by decide +kernel
theorem dX3_sky_13 : decode cX3_sky 13 = .ok (.ireturn, 1) := by decide +kernel
set_option maxRecDepth 20000 in
theorem ggX3_hear_X3_checkCode : GoodIn wsX3_hear wsX3_checkCode := goodIn_ca (goodIn_r _ [6, 7, 8, 9, 10, 11, 12, 13, 14, 15, 46, 47, 48, 49] (by decide +kernel) (by decide +kernel)) (goodIn_sub (fun _ h => List.mem_cons_of_mem _ (List.mem_append_left _ (List.mem_append_right _ h))) (by decide +kernel))
set_option maxRecDepth 20000 in
theorem gX3_hear_X3_checkCode : GoodIn wsX3_hear (wsV RX3 49 RX3 yX3_checkCode wsX3_checkCode) := goodIn_app (goodIn_of _ (by decide +kernel)) ggX3_hear_X3_checkCode
set_option maxRecDepth 20000 in
theorem ggX3_hear_X3_checkTime : GoodIn wsX3_hear wsX3_checkTime := goodIn_ca (goodIn_r _ [19, 20, 21] (by decide +kernel) (by decide +kernel)) (goodIn_sub (fun _ h => List.mem_cons_of_mem _ (List.mem_append_right _ h)) (by decide +kernel))
set_option maxRecDepth 20000 in
theorem gX3_hear_X3_checkTime : GoodIn wsX3_hear (wsV RX3 127 RX3 yX3_checkTime wsX3_checkTime) := goodIn_app (goodIn_of _ (by decide +kernel)) ggX3_hear_X3_checkTime
set_option maxRecDepth 20000 in
theorem ggX3_hear_X2_heard : GoodIn wsX3_hear wsX2_heard := goodIn_r _ [26, 27, 28, 29, 30, 31, 25, 32, 33, 34, 35, 36, 37, 13, 38, 39, 40, 41, 42, 43, 44, 45, 50, 51, 52, 49] (by decide +kernel) (by decide +kernel)
set_option maxRecDepth 20000 in
theorem gX3_hear_X2_heard : GoodIn wsX3_hear (wsV RX3 134 RX2 yX2_heard wsX2_heard) := goodIn_app (goodIn_of _ (by decide +kernel)) ggX3_hear_X2_heard
theorem dX3_hear_0 : decode cX3_hear 0 = .ok (.aload_n 0, 1) := by decide +kernel
theorem dX3_hear_1 : decode cX3_hear 1 = .ok (.iload_n 1, 1) := by decide +kernel
theorem dX3_hear_2 : decode cX3_hear 2 = .ok (.invokevirtual 49, 3) := by decide +kernel
theorem dX3_hear_5 : decode cX3_hear 5 = .ok (.aload_n 0, 1) := by decide +kernel
theorem dX3_hear_6 : decode cX3_hear 6 = .ok (.iload_n 2, 1) := by decide +kernel
theorem dX3_hear_7 : decode cX3_hear 7 = .ok (.invokevirtual 127, 3) := by decide +kernel
theorem dX3_hear_10 : decode cX3_hear 10 = .ok (.aload_n 0, 1) := by decide +kernel
theorem dX3_hear_11 : decode cX3_hear 11 = .ok (.getfield 21, 3) := by decide +kernel
theorem dX3_hear_14 : decode cX3_hear 14 = .ok (.iload_n 1, 1) := by decide +kernel
theorem dX3_hear_15 : decode cX3_hear 15 = .ok (.iload_n 2, 1) := by decide +kernel
theorem dX3_hear_16 : decode cX3_hear 16 = .ok (.invokevirtual 134, 3) := by decide +kernel
theorem dX3_hear_19 : decode cX3_hear 19 = .ok (.ireturn, 1) := by decide +kernel
set_option maxRecDepth 20000 in
theorem ggX3_word_X3_hillAt : GoodIn wsX3_word wsX3_hillAt := goodIn_ca (goodIn_r _ [9, 1, 2, 10, 11, 12, 13, 14, 15, 16, 17, 18, 19, 20, 21, 22, 23, 24, 25, 26, 27, 28, 29, 30, 31, 32, 33, 34, 86, 87, 88, 89, 90, 91] (by decide +kernel) (by decide +kernel)) (goodIn_sub (fun _ h => List.mem_cons_of_mem _ (List.mem_append_right _ h)) (by decide +kernel))
set_option maxRecDepth 20000 in
theorem gX3_word_X3_hillAt : GoodIn wsX3_word (wsV RX3 74 RX3 yX3_hillAt wsX3_hillAt) := goodIn_app (goodIn_of _ (by decide +kernel)) ggX3_word_X3_hillAt
set_option maxRecDepth 20000 in
theorem ggX3_word_X1_wordAt : GoodIn wsX3_word wsX1_wordAt := goodIn_r _ [39, 40, 81, 82, 83, 84, 85] (by decide +kernel) (by decide +kernel)
set_option maxRecDepth 20000 in
theorem gX3_word_X1_wordAt : GoodIn wsX3_word (wsV RX3 139 RX1 yX1_wordAt wsX1_wordAt) := goodIn_app (goodIn_of _ (by decide +kernel)) ggX3_word_X1_wordAt
set_option maxRecDepth 20000 in
theorem ggX3_word_X2_heardWord : GoodIn wsX3_word wsX2_heardWord := goodIn_r _ [45, 46, 47, 48, 49, 50, 51, 38, 52, 53, 54, 55, 56, 44, 57, 58, 59, 60, 61, 62, 63, 64, 65, 66, 67, 68, 69, 70, 71, 72, 73, 74, 75, 81, 82, 83, 84, 85, 92, 93, 94, 95] (by decide +kernel) (by decide +kernel)
set_option maxRecDepth 20000 in
theorem gX3_word_X2_heardWord : GoodIn wsX3_word (wsV RX3 142 RX2 yX2_heardWord wsX2_heardWord) := goodIn_app (goodIn_of _ (by decide +kernel)) ggX3_word_X2_heardWord
set_option maxRecDepth 20000 in
theorem ggX3_word_X1_isWrong : GoodIn wsX3_word wsX1_isWrong := goodIn_r _ [79, 80, 36, 37, 38, 39, 40, 81, 82, 83, 84, 85] (by decide +kernel) (by decide +kernel)
set_option maxRecDepth 20000 in
theorem gX3_word_X1_isWrong : GoodIn wsX3_word (wsV RX3 146 RX1 yX1_isWrong wsX1_isWrong) := goodIn_app (goodIn_of _ (by decide +kernel)) ggX3_word_X1_isWrong
theorem dX3_word_0 : decode cX3_word 0 = .ok (.aload_n 0, 1) := by decide +kernel
theorem dX3_word_1 : decode cX3_word 1 = .ok (.iload_n 1, 1) := by decide +kernel
theorem dX3_word_2 : decode cX3_word 2 = .ok (.invokevirtual 74, 3) := by decide +kernel
theorem dX3_word_5 : decode cX3_word 5 = .ok (.astore 4, 2) := by decide +kernel
theorem dX3_word_7 : decode cX3_word 7 = .ok (.iload_n 2, 1) := by decide +kernel
theorem dX3_word_8 : decode cX3_word 8 = .ok (.ifCond .lt 12, 3) := by decide +kernel
theorem dX3_word_11 : decode cX3_word 11 = .ok (.iload_n 2, 1) := by decide +kernel
theorem dX3_word_12 : decode cX3_word 12 = .ok (.aload 4, 2) := by decide +kernel
theorem dX3_word_14 : decode cX3_word 14 = .ok (.getfield 86, 3) := by decide +kernel
theorem dX3_word_17 : decode cX3_word 17 = .ok (.if_icmp .lt 13, 3) := by decide +kernel
theorem dX3_word_20 : decode cX3_word 20 = .ok (.new 106, 3) := by decide +kernel
theorem dX3_word_23 : decode cX3_word 23 = .ok (.dup, 1) := by decide +kernel
theorem dX3_word_24 : decode cX3_word 24 = .ok (.ldc 137, 2) := by decide +kernel
theorem dX3_word_26 : decode cX3_word 26 = .ok (.invokespecial 110, 3) := by decide +kernel
theorem dX3_word_29 : decode cX3_word 29 = .ok (.athrow, 1) := by decide +kernel
theorem dX3_word_30 : decode cX3_word 30 = .ok (.iload_n 3, 1) := by decide +kernel
theorem dX3_word_31 : decode cX3_word 31 = .ok (.tableswitch 68 0 2 #[25, 32, 43], 25) := by decide +kernel
theorem dX3_word_56 : decode cX3_word 56 = .ok (.aload 4, 2) := by decide +kernel
theorem dX3_word_58 : decode cX3_word 58 = .ok (.iload_n 2, 1) := by decide +kernel
theorem dX3_word_59 : decode cX3_word 59 = .ok (.invokevirtual 139, 3) := by decide +kernel
theorem dX3_word_62 : decode cX3_word 62 = .ok (.ireturn, 1) := by decide +kernel
theorem dX3_word_63 : decode cX3_word 63 = .ok (.aload_n 0, 1) := by decide +kernel
theorem dX3_word_64 : decode cX3_word 64 = .ok (.getfield 21, 3) := by decide +kernel
theorem dX3_word_67 : decode cX3_word 67 = .ok (.aload 4, 2) := by decide +kernel
theorem dX3_word_69 : decode cX3_word 69 = .ok (.iload_n 2, 1) := by decide +kernel
theorem dX3_word_70 : decode cX3_word 70 = .ok (.invokevirtual 142, 3) := by decide +kernel
theorem dX3_word_73 : decode cX3_word 73 = .ok (.ireturn, 1) := by decide +kernel
theorem dX3_word_74 : decode cX3_word 74 = .ok (.aload 4, 2) := by decide +kernel
theorem dX3_word_76 : decode cX3_word 76 = .ok (.iload_n 2, 1) := by decide +kernel
theorem dX3_word_77 : decode cX3_word 77 = .ok (.aload_n 0, 1) := by decide +kernel
theorem dX3_word_78 : decode cX3_word 78 = .ok (.getfield 21, 3) := by decide +kernel
theorem dX3_word_81 : decode cX3_word 81 = .ok (.aload 4, 2) := by decide +kernel
theorem dX3_word_83 : decode cX3_word 83 = .ok (.iload_n 2, 1) := by decide +kernel
theorem dX3_word_84 : decode cX3_word 84 = .ok (.invokevirtual 142, 3) := by decide +kernel
theorem dX3_word_87 : decode cX3_word 87 = .ok (.invokevirtual 146, 3) := by decide +kernel
theorem dX3_word_90 : decode cX3_word 90 = .ok (.ifCond .eq 7, 3) := by decide +kernel
theorem dX3_word_93 : decode cX3_word 93 = .ok (.iconst 1, 1) := by decide +kernel
theorem dX3_word_94 : decode cX3_word 94 = .ok (.goto 4, 3) := by decide +kernel
theorem dX3_word_97 : decode cX3_word 97 = .ok (.iconst 0, 1) := by decide +kernel
theorem dX3_word_98 : decode cX3_word 98 = .ok (.ireturn, 1) := by decide +kernel
theorem dX3_word_99 : decode cX3_word 99 = .ok (.new 106, 3) := by decide +kernel
theorem dX3_word_102 : decode cX3_word 102 = .ok (.dup, 1) := by decide +kernel
theorem dX3_word_103 : decode cX3_word 103 = .ok (.ldc 150, 2) := by decide +kernel
theorem dX3_word_105 : decode cX3_word 105 = .ok (.invokespecial 110, 3) := by decide +kernel
theorem dX3_word_108 : decode cX3_word 108 = .ok (.athrow, 1) := by decide +kernel
set_option maxRecDepth 20000 in
theorem ggX3_about_X3_hillAt : GoodIn wsX3_about wsX3_hillAt := goodIn_ca (goodIn_r _ [14, 1, 2, 15, 16, 17, 18, 19, 20, 21, 22, 23, 24, 25, 26, 27, 28, 29, 30, 31, 32, 33, 34, 35, 36, 37, 38, 39, 109, 110, 111, 113, 114, 115] (by decide +kernel) (by decide +kernel)) (goodIn_sub (fun _ h => List.mem_cons_of_mem _ (List.mem_append_right _ h)) (by decide +kernel))
set_option maxRecDepth 20000 in
theorem gX3_about_X3_hillAt : GoodIn wsX3_about (wsV RX3 74 RX3 yX3_hillAt wsX3_hillAt) := goodIn_app (goodIn_of _ (by decide +kernel)) ggX3_about_X3_hillAt
set_option maxRecDepth 20000 in
theorem ggX3_about_X2_wrongWords : GoodIn wsX3_about wsX2_wrongWords := goodIn_r _ [44, 45, 46, 47, 48, 43, 49, 50, 51, 52, 53, 54, 55, 56, 57, 58, 59, 60, 61, 62, 63, 64, 65, 66, 67, 68, 69, 70, 71, 72, 73, 74, 75, 76, 77, 78, 79, 80, 81, 82, 83, 84, 85, 86, 87, 88, 89, 104, 105, 106, 107, 108, 116, 117, 118, 112] (by decide +kernel) (by decide +kernel)
set_option maxRecDepth 20000 in
theorem gX3_about_X2_wrongWords : GoodIn wsX3_about (wsV RX3 155 RX2 yX2_wrongWords wsX2_wrongWords) := goodIn_app (goodIn_of _ (by decide +kernel)) ggX3_about_X2_wrongWords
set_option maxRecDepth 20000 in
theorem ggX3_about_X1_end : GoodIn wsX3_about wsX1_end := goodIn_r _ [93, 94, 95, 54, 55, 56, 57, 58, 104, 105, 106, 107, 108] (by decide +kernel) (by decide +kernel)
set_option maxRecDepth 20000 in
theorem gX3_about_X1_end : GoodIn wsX3_about (wsV RX3 159 RX1 yX1_end wsX1_end) := goodIn_app (goodIn_of _ (by decide +kernel)) ggX3_about_X1_end
set_option maxRecDepth 20000 in
theorem ggX3_about_X2_faintest : GoodIn wsX3_about wsX2_faintest := goodIn_r _ [99, 45, 100, 101, 102, 103, 46, 47, 48, 43, 49, 50, 51, 52, 53, 54, 55, 56, 57, 58, 59, 60, 61, 62, 63, 64, 65, 66, 67, 68, 69, 70, 71, 72, 73, 74, 75, 76, 77, 78, 79, 80, 104, 105, 106, 107, 108, 116, 117, 118, 112] (by decide +kernel) (by decide +kernel)
set_option maxRecDepth 20000 in
theorem gX3_about_X2_faintest : GoodIn wsX3_about (wsV RX3 162 RX2 yX2_faintest wsX2_faintest) := goodIn_app (goodIn_of _ (by decide +kernel)) ggX3_about_X2_faintest
theorem dX3_about_0 : decode cX3_about 0 = .ok (.aload_n 0, 1) := by decide +kernel
theorem dX3_about_1 : decode cX3_about 1 = .ok (.iload_n 1, 1) := by decide +kernel
theorem dX3_about_2 : decode cX3_about 2 = .ok (.invokevirtual 74, 3) := by decide +kernel
theorem dX3_about_5 : decode cX3_about 5 = .ok (.astore_n 3, 1) := by decide +kernel
theorem dX3_about_6 : decode cX3_about 6 = .ok (.iload_n 2, 1) := by decide +kernel
theorem dX3_about_7 : decode cX3_about 7 = .ok (.tableswitch 91 0 6 #[41, 46, 51, 56, 61, 70, 82], 41) := by decide +kernel
theorem dX3_about_48 : decode cX3_about 48 = .ok (.aload_n 3, 1) := by decide +kernel
theorem dX3_about_49 : decode cX3_about 49 = .ok (.getfield 152, 3) := by decide +kernel
theorem dX3_about_52 : decode cX3_about 52 = .ok (.ireturn, 1) := by decide +kernel
theorem dX3_about_53 : decode cX3_about 53 = .ok (.aload_n 3, 1) := by decide +kernel
theorem dX3_about_54 : decode cX3_about 54 = .ok (.getfield 89, 3) := by decide +kernel
theorem dX3_about_57 : decode cX3_about 57 = .ok (.ireturn, 1) := by decide +kernel
theorem dX3_about_58 : decode cX3_about 58 = .ok (.aload_n 3, 1) := by decide +kernel
theorem dX3_about_59 : decode cX3_about 59 = .ok (.getfield 103, 3) := by decide +kernel
theorem dX3_about_62 : decode cX3_about 62 = .ok (.ireturn, 1) := by decide +kernel
theorem dX3_about_63 : decode cX3_about 63 = .ok (.aload_n 3, 1) := by decide +kernel
theorem dX3_about_64 : decode cX3_about 64 = .ok (.getfield 86, 3) := by decide +kernel
theorem dX3_about_67 : decode cX3_about 67 = .ok (.ireturn, 1) := by decide +kernel
theorem dX3_about_68 : decode cX3_about 68 = .ok (.aload_n 0, 1) := by decide +kernel
theorem dX3_about_69 : decode cX3_about 69 = .ok (.getfield 21, 3) := by decide +kernel
theorem dX3_about_72 : decode cX3_about 72 = .ok (.aload_n 3, 1) := by decide +kernel
theorem dX3_about_73 : decode cX3_about 73 = .ok (.invokevirtual 155, 3) := by decide +kernel
theorem dX3_about_76 : decode cX3_about 76 = .ok (.ireturn, 1) := by decide +kernel
theorem dX3_about_77 : decode cX3_about 77 = .ok (.aload_n 3, 1) := by decide +kernel
theorem dX3_about_78 : decode cX3_about 78 = .ok (.aload_n 0, 1) := by decide +kernel
theorem dX3_about_79 : decode cX3_about 79 = .ok (.getfield 12, 3) := by decide +kernel
theorem dX3_about_82 : decode cX3_about 82 = .ok (.getfield 39, 3) := by decide +kernel
theorem dX3_about_85 : decode cX3_about 85 = .ok (.invokevirtual 159, 3) := by decide +kernel
theorem dX3_about_88 : decode cX3_about 88 = .ok (.ireturn, 1) := by decide +kernel
theorem dX3_about_89 : decode cX3_about 89 = .ok (.aload_n 0, 1) := by decide +kernel
theorem dX3_about_90 : decode cX3_about 90 = .ok (.getfield 21, 3) := by decide +kernel
theorem dX3_about_93 : decode cX3_about 93 = .ok (.aload_n 3, 1) := by decide +kernel
theorem dX3_about_94 : decode cX3_about 94 = .ok (.invokevirtual 162, 3) := by decide +kernel
theorem dX3_about_97 : decode cX3_about 97 = .ok (.ireturn, 1) := by decide +kernel
theorem dX3_about_98 : decode cX3_about 98 = .ok (.new 106, 3) := by decide +kernel
theorem dX3_about_101 : decode cX3_about 101 = .ok (.dup, 1) := by decide +kernel
theorem dX3_about_102 : decode cX3_about 102 = .ok (.ldc 165, 2) := by decide +kernel
theorem dX3_about_104 : decode cX3_about 104 = .ok (.invokespecial 110, 3) := by decide +kernel
theorem dX3_about_107 : decode cX3_about 107 = .ok (.athrow, 1) := by decide +kernel
set_option maxRecDepth 20000 in
theorem ggX3_count_Jx4a65c_size_8abf5 : GoodIn wsX3_count wsJx4a65c_size_8abf5 := goodIn_r _ [11, 12, 126, 127, 128] (by decide +kernel) (by decide +kernel)
set_option maxRecDepth 20000 in
theorem gX3_count_Jx4a65c_size_8abf5 : GoodIn wsX3_count (wsV RX3 56 RJx4a65c yJx4a65c_size_8abf5 wsJx4a65c_size_8abf5) := goodIn_app (goodIn_of _ (by decide +kernel)) ggX3_count_Jx4a65c_size_8abf5
set_option maxRecDepth 20000 in
theorem ggX3_count_X3_allWords : GoodIn wsX3_count wsX3_allWords := goodIn_r _ [17, 5, 18, 19, 7, 8, 9, 10, 11, 12, 20, 21, 22, 23, 24, 25, 26, 27, 28, 29, 30, 31, 32, 33, 34, 35, 36, 122, 123, 124, 129, 130, 131, 132, 133, 126, 127, 128] (by decide +kernel) (by decide +kernel)
set_option maxRecDepth 20000 in
theorem gX3_count_X3_allWords : GoodIn wsX3_count (wsV RX3 167 RX3 yX3_allWords wsX3_allWords) := goodIn_app (goodIn_of _ (by decide +kernel)) ggX3_count_X3_allWords
set_option maxRecDepth 20000 in
theorem ggX3_count_X3_allWrongWords : GoodIn wsX3_count wsX3_allWrongWords := goodIn_r _ [40, 5, 6, 18, 7, 8, 9, 10, 11, 12, 20, 21, 22, 23, 24, 25, 26, 27, 28, 29, 30, 31, 32, 33, 34, 35, 36, 41, 42, 43, 44, 45, 46, 47, 48, 49, 50, 51, 52, 53, 54, 55, 56, 57, 58, 59, 60, 61, 62, 63, 64, 65, 66, 67, 68, 69, 70, 71, 72, 73, 74, 75, 76, 77, 78, 79, 80, 81, 82, 83, 84, 85, 86, 87, 88, 89, 90, 122, 123, 124, 126, 127, 128, 129, 130, 131, 132, 133, 134, 135, 136, 125] (by decide +kernel) (by decide +kernel)
set_option maxRecDepth 20000 in
theorem gX3_count_X3_allWrongWords : GoodIn wsX3_count (wsV RX3 170 RX3 yX3_allWrongWords wsX3_allWrongWords) := goodIn_app (goodIn_of _ (by decide +kernel)) ggX3_count_X3_allWrongWords
set_option maxRecDepth 20000 in
theorem ggX3_count_X3_endOfAll : GoodIn wsX3_count wsX3_endOfAll := goodIn_r _ [94, 5, 18, 3, 4, 95, 96, 97, 98, 7, 8, 9, 10, 11, 12, 20, 21, 22, 23, 24, 25, 26, 27, 28, 29, 30, 31, 32, 33, 34, 35, 36, 99, 100, 101, 57, 102, 103, 104, 55, 56, 58, 59, 122, 123, 124, 125, 126, 127, 128, 129, 130, 131, 132, 133] (by decide +kernel) (by decide +kernel)
set_option maxRecDepth 20000 in
theorem gX3_count_X3_endOfAll : GoodIn wsX3_count (wsV RX3 173 RX3 yX3_endOfAll wsX3_endOfAll) := goodIn_app (goodIn_of _ (by decide +kernel)) ggX3_count_X3_endOfAll
set_option maxRecDepth 20000 in
theorem ggX3_count_X2_highest : GoodIn wsX3_count wsX2_highest := goodIn_r _ [108, 109, 110, 97, 111, 112, 96, 98, 64, 65, 66, 44, 67, 68, 69, 134, 135, 136] (by decide +kernel) (by decide +kernel)
set_option maxRecDepth 20000 in
theorem gX3_count_X2_highest : GoodIn wsX3_count (wsV RX3 176 RX2 yX2_highest wsX2_highest) := goodIn_app (goodIn_of _ (by decide +kernel)) ggX3_count_X2_highest
set_option maxRecDepth 20000 in
theorem ggX3_count_X3_freeCodes : GoodIn wsX3_count wsX3_freeCodes := goodIn_r _ [116, 3, 4, 117, 118, 119, 16, 120, 5, 18, 121, 7, 8, 9, 10, 11, 12, 20, 21, 22, 23, 24, 25, 26, 27, 28, 29, 30, 31, 32, 33, 34, 35, 36, 122, 123, 124, 125, 129, 130, 131, 132, 133, 126, 127, 128] (by decide +kernel) (by decide +kernel)
set_option maxRecDepth 20000 in
theorem gX3_count_X3_freeCodes : GoodIn wsX3_count (wsV RX3 179 RX3 yX3_freeCodes wsX3_freeCodes) := goodIn_app (goodIn_of _ (by decide +kernel)) ggX3_count_X3_freeCodes
theorem dX3_count_0 : decode cX3_count 0 = .ok (.iload_n 1, 1) := by decide +kernel
theorem dX3_count_1 : decode cX3_count 1 = .ok (.tableswitch 91 0 6 #[43, 51, 59, 64, 69, 74, 86], 43) := by decide +kernel
theorem dX3_count_44 : decode cX3_count 44 = .ok (.aload_n 0, 1) := by decide +kernel
theorem dX3_count_45 : decode cX3_count 45 = .ok (.getfield 12, 3) := by decide +kernel
theorem dX3_count_48 : decode cX3_count 48 = .ok (.getfield 39, 3) := by decide +kernel
theorem dX3_count_51 : decode cX3_count 51 = .ok (.ireturn, 1) := by decide +kernel
theorem dX3_count_52 : decode cX3_count 52 = .ok (.aload_n 0, 1) := by decide +kernel
theorem dX3_count_53 : decode cX3_count 53 = .ok (.getfield 28, 3) := by decide +kernel
theorem dX3_count_56 : decode cX3_count 56 = .ok (.invokevirtual 56, 3) := by decide +kernel
theorem dX3_count_59 : decode cX3_count 59 = .ok (.ireturn, 1) := by decide +kernel
theorem dX3_count_60 : decode cX3_count 60 = .ok (.aload_n 0, 1) := by decide +kernel
theorem dX3_count_61 : decode cX3_count 61 = .ok (.invokevirtual 167, 3) := by decide +kernel
theorem dX3_count_64 : decode cX3_count 64 = .ok (.ireturn, 1) := by decide +kernel
theorem dX3_count_65 : decode cX3_count 65 = .ok (.aload_n 0, 1) := by decide +kernel
theorem dX3_count_66 : decode cX3_count 66 = .ok (.invokevirtual 170, 3) := by decide +kernel
theorem dX3_count_69 : decode cX3_count 69 = .ok (.ireturn, 1) := by decide +kernel
theorem dX3_count_70 : decode cX3_count 70 = .ok (.aload_n 0, 1) := by decide +kernel
theorem dX3_count_71 : decode cX3_count 71 = .ok (.invokevirtual 173, 3) := by decide +kernel
theorem dX3_count_74 : decode cX3_count 74 = .ok (.ireturn, 1) := by decide +kernel
theorem dX3_count_75 : decode cX3_count 75 = .ok (.aload_n 0, 1) := by decide +kernel
theorem dX3_count_76 : decode cX3_count 76 = .ok (.getfield 21, 3) := by decide +kernel
theorem dX3_count_79 : decode cX3_count 79 = .ok (.aload_n 0, 1) := by decide +kernel
theorem dX3_count_80 : decode cX3_count 80 = .ok (.invokevirtual 173, 3) := by decide +kernel
theorem dX3_count_83 : decode cX3_count 83 = .ok (.invokevirtual 176, 3) := by decide +kernel
theorem dX3_count_86 : decode cX3_count 86 = .ok (.ireturn, 1) := by decide +kernel
theorem dX3_count_87 : decode cX3_count 87 = .ok (.aload_n 0, 1) := by decide +kernel
theorem dX3_count_88 : decode cX3_count 88 = .ok (.invokevirtual 179, 3) := by decide +kernel
theorem dX3_count_91 : decode cX3_count 91 = .ok (.ireturn, 1) := by decide +kernel
theorem dX3_count_92 : decode cX3_count 92 = .ok (.new 106, 3) := by decide +kernel
theorem dX3_count_95 : decode cX3_count 95 = .ok (.dup, 1) := by decide +kernel
theorem dX3_count_96 : decode cX3_count 96 = .ok (.ldc 165, 2) := by decide +kernel
theorem dX3_count_98 : decode cX3_count 98 = .ok (.invokespecial 110, 3) := by decide +kernel
theorem dX3_count_101 : decode cX3_count 101 = .ok (.athrow, 1) := by decide +kernel
set_option maxRecDepth 20000 in
theorem ggX3_alike_X3_checkCode : GoodIn wsX3_alike wsX3_checkCode := goodIn_ca (goodIn_r _ [8, 9, 10, 3, 11, 12, 13, 14, 15, 16, 36, 37, 38, 39] (by decide +kernel) (by decide +kernel)) (goodIn_sub (fun _ h => List.mem_cons_of_mem _ (List.mem_append_right _ h)) (by decide +kernel))
set_option maxRecDepth 20000 in
theorem gX3_alike_X3_checkCode : GoodIn wsX3_alike (wsV RX3 49 RX3 yX3_checkCode wsX3_checkCode) := goodIn_app (goodIn_of _ (by decide +kernel)) ggX3_alike_X3_checkCode
set_option maxRecDepth 20000 in
theorem ggX3_alike_X0_has : GoodIn wsX3_alike wsX0_has := goodIn_r _ [15, 16, 39] (by decide +kernel) (by decide +kernel)
set_option maxRecDepth 20000 in
theorem gX3_alike_X0_has : GoodIn wsX3_alike (wsV RX3 117 RX0 yX0_has wsX0_has) := goodIn_app (goodIn_of _ (by decide +kernel)) ggX3_alike_X0_has
set_option maxRecDepth 20000 in
theorem ggX3_alike_X0_likeness : GoodIn wsX3_alike wsX0_likeness := goodIn_r _ [20, 16, 21, 22, 23, 24, 25, 26, 27, 14, 28, 29, 30, 31, 32, 33, 34, 35, 39] (by decide +kernel) (by decide +kernel)
set_option maxRecDepth 20000 in
theorem gX3_alike_X0_likeness : GoodIn wsX3_alike (wsV RX3 184 RX0 yX0_likeness wsX0_likeness) := goodIn_app (goodIn_of _ (by decide +kernel)) ggX3_alike_X0_likeness
theorem dX3_alike_0 : decode cX3_alike 0 = .ok (.aload_n 0, 1) := by decide +kernel
theorem dX3_alike_1 : decode cX3_alike 1 = .ok (.iload_n 1, 1) := by decide +kernel
theorem dX3_alike_2 : decode cX3_alike 2 = .ok (.invokevirtual 49, 3) := by decide +kernel
theorem dX3_alike_5 : decode cX3_alike 5 = .ok (.aload_n 0, 1) := by decide +kernel
theorem dX3_alike_6 : decode cX3_alike 6 = .ok (.iload_n 2, 1) := by decide +kernel
theorem dX3_alike_7 : decode cX3_alike 7 = .ok (.invokevirtual 49, 3) := by decide +kernel
theorem dX3_alike_10 : decode cX3_alike 10 = .ok (.aload_n 0, 1) := by decide +kernel
theorem dX3_alike_11 : decode cX3_alike 11 = .ok (.getfield 12, 3) := by decide +kernel
theorem dX3_alike_14 : decode cX3_alike 14 = .ok (.iload_n 3, 1) := by decide +kernel
theorem dX3_alike_15 : decode cX3_alike 15 = .ok (.invokevirtual 117, 3) := by decide +kernel
theorem dX3_alike_18 : decode cX3_alike 18 = .ok (.ifCond .ne 13, 3) := by decide +kernel
theorem dX3_alike_21 : decode cX3_alike 21 = .ok (.new 32, 3) := by decide +kernel
theorem dX3_alike_24 : decode cX3_alike 24 = .ok (.dup, 1) := by decide +kernel
theorem dX3_alike_25 : decode cX3_alike 25 = .ok (.ldc 182, 2) := by decide +kernel
theorem dX3_alike_27 : decode cX3_alike 27 = .ok (.invokespecial 36, 3) := by decide +kernel
theorem dX3_alike_30 : decode cX3_alike 30 = .ok (.athrow, 1) := by decide +kernel
theorem dX3_alike_31 : decode cX3_alike 31 = .ok (.aload_n 0, 1) := by decide +kernel
theorem dX3_alike_32 : decode cX3_alike 32 = .ok (.getfield 12, 3) := by decide +kernel
theorem dX3_alike_35 : decode cX3_alike 35 = .ok (.iload_n 1, 1) := by decide +kernel
theorem dX3_alike_36 : decode cX3_alike 36 = .ok (.iload_n 2, 1) := by decide +kernel
theorem dX3_alike_37 : decode cX3_alike 37 = .ok (.iload_n 3, 1) := by decide +kernel
theorem dX3_alike_38 : decode cX3_alike 38 = .ok (.invokevirtual 184, 3) := by decide +kernel
theorem dX3_alike_41 : decode cX3_alike 41 = .ok (.ireturn, 1) := by decide +kernel
set_option maxRecDepth 20000 in
theorem ggX3_shift_X3_checkCode : GoodIn wsX3_shift wsX3_checkCode := goodIn_ca (goodIn_r _ [7, 8, 9, 1, 10, 11, 12, 13, 14, 15, 35, 36, 37, 38] (by decide +kernel) (by decide +kernel)) (goodIn_sub (fun _ h => List.mem_cons_of_mem _ (List.mem_append_right _ h)) (by decide +kernel))
set_option maxRecDepth 20000 in
theorem gX3_shift_X3_checkCode : GoodIn wsX3_shift (wsV RX3 49 RX3 yX3_checkCode wsX3_checkCode) := goodIn_app (goodIn_of _ (by decide +kernel)) ggX3_shift_X3_checkCode
set_option maxRecDepth 20000 in
theorem ggX3_shift_X0_likeness : GoodIn wsX3_shift wsX0_likeness := goodIn_r _ [19, 15, 20, 21, 22, 23, 24, 25, 26, 13, 27, 28, 29, 30, 31, 32, 33, 34, 38] (by decide +kernel) (by decide +kernel)
set_option maxRecDepth 20000 in
theorem gX3_shift_X0_likeness : GoodIn wsX3_shift (wsV RX3 184 RX0 yX0_likeness wsX0_likeness) := goodIn_app (goodIn_of _ (by decide +kernel)) ggX3_shift_X0_likeness
theorem dX3_shift_0 : decode cX3_shift 0 = .ok (.aload_n 0, 1) := by decide +kernel
theorem dX3_shift_1 : decode cX3_shift 1 = .ok (.iload_n 1, 1) := by decide +kernel
theorem dX3_shift_2 : decode cX3_shift 2 = .ok (.invokevirtual 49, 3) := by decide +kernel
theorem dX3_shift_5 : decode cX3_shift 5 = .ok (.aload_n 0, 1) := by decide +kernel
theorem dX3_shift_6 : decode cX3_shift 6 = .ok (.iload_n 2, 1) := by decide +kernel
theorem dX3_shift_7 : decode cX3_shift 7 = .ok (.invokevirtual 49, 3) := by decide +kernel
theorem dX3_shift_10 : decode cX3_shift 10 = .ok (.iconst 0, 1) := by decide +kernel
theorem dX3_shift_11 : decode cX3_shift 11 = .ok (.istore_n 3, 1) := by decide +kernel
theorem dX3_shift_12 : decode cX3_shift 12 = .ok (.aload_n 0, 1) := by decide +kernel
theorem dX3_shift_13 : decode cX3_shift 13 = .ok (.getfield 12, 3) := by decide +kernel
theorem dX3_shift_16 : decode cX3_shift 16 = .ok (.iload_n 1, 1) := by decide +kernel
theorem dX3_shift_17 : decode cX3_shift 17 = .ok (.iload_n 2, 1) := by decide +kernel
theorem dX3_shift_18 : decode cX3_shift 18 = .ok (.iconst 0, 1) := by decide +kernel
theorem dX3_shift_19 : decode cX3_shift 19 = .ok (.invokevirtual 184, 3) := by decide +kernel
theorem dX3_shift_22 : decode cX3_shift 22 = .ok (.istore 4, 2) := by decide +kernel
theorem dX3_shift_24 : decode cX3_shift 24 = .ok (.iconst 1, 1) := by decide +kernel
theorem dX3_shift_25 : decode cX3_shift 25 = .ok (.istore 5, 2) := by decide +kernel
theorem dX3_shift_27 : decode cX3_shift 27 = .ok (.iload 5, 2) := by decide +kernel
theorem dX3_shift_29 : decode cX3_shift 29 = .ok (.aload_n 0, 1) := by decide +kernel
theorem dX3_shift_30 : decode cX3_shift 30 = .ok (.getfield 12, 3) := by decide +kernel
theorem dX3_shift_33 : decode cX3_shift 33 = .ok (.getfield 39, 3) := by decide +kernel
theorem dX3_shift_36 : decode cX3_shift 36 = .ok (.if_icmp .ge 36, 3) := by decide +kernel
theorem dX3_shift_39 : decode cX3_shift 39 = .ok (.aload_n 0, 1) := by decide +kernel
theorem dX3_shift_40 : decode cX3_shift 40 = .ok (.getfield 12, 3) := by decide +kernel
theorem dX3_shift_43 : decode cX3_shift 43 = .ok (.iload_n 1, 1) := by decide +kernel
theorem dX3_shift_44 : decode cX3_shift 44 = .ok (.iload_n 2, 1) := by decide +kernel
theorem dX3_shift_45 : decode cX3_shift 45 = .ok (.iload 5, 2) := by decide +kernel
theorem dX3_shift_47 : decode cX3_shift 47 = .ok (.invokevirtual 184, 3) := by decide +kernel
theorem dX3_shift_50 : decode cX3_shift 50 = .ok (.istore 6, 2) := by decide +kernel
theorem dX3_shift_52 : decode cX3_shift 52 = .ok (.iload 6, 2) := by decide +kernel
theorem dX3_shift_54 : decode cX3_shift 54 = .ok (.iload 4, 2) := by decide +kernel
theorem dX3_shift_56 : decode cX3_shift 56 = .ok (.if_icmp .le 10, 3) := by decide +kernel
theorem dX3_shift_59 : decode cX3_shift 59 = .ok (.iload 6, 2) := by decide +kernel
theorem dX3_shift_61 : decode cX3_shift 61 = .ok (.istore 4, 2) := by decide +kernel
theorem dX3_shift_63 : decode cX3_shift 63 = .ok (.iload 5, 2) := by decide +kernel
theorem dX3_shift_65 : decode cX3_shift 65 = .ok (.istore_n 3, 1) := by decide +kernel
theorem dX3_shift_66 : decode cX3_shift 66 = .ok (.iinc 5 1, 3) := by decide +kernel
theorem dX3_shift_69 : decode cX3_shift 69 = .ok (.goto (-42), 3) := by decide +kernel
theorem dX3_shift_72 : decode cX3_shift 72 = .ok (.iload_n 3, 1) := by decide +kernel
theorem dX3_shift_73 : decode cX3_shift 73 = .ok (.ireturn, 1) := by decide +kernel
set_option maxRecDepth 20000 in
theorem ggX3_advise_X3_checkDelay : GoodIn wsX3_advise wsX3_checkDelay := goodIn_ca (goodIn_r _ [7, 8, 9, 1, 2, 67, 68, 69, 70] (by decide +kernel) (by decide +kernel)) (goodIn_sub (fun _ h => List.mem_cons_of_mem _ (List.mem_append_right _ h)) (by decide +kernel))
set_option maxRecDepth 20000 in
theorem gX3_advise_X3_checkDelay : GoodIn wsX3_advise (wsV RX3 100 RX3 yX3_checkDelay wsX3_checkDelay) := goodIn_app (goodIn_of _ (by decide +kernel)) ggX3_advise_X3_checkDelay
set_option maxRecDepth 20000 in
theorem ggX3_advise_X3_isTaken : GoodIn wsX3_advise wsX3_isTaken := goodIn_r _ [13, 14, 15, 16, 17, 18, 19, 20, 21, 22, 23, 24, 25, 26, 27, 28, 29, 30, 31, 32, 33, 34, 35, 36, 37, 38, 39, 67, 68, 69, 71, 72, 73, 74, 75, 76, 77, 78] (by decide +kernel) (by decide +kernel)
set_option maxRecDepth 20000 in
theorem gX3_advise_X3_isTaken : GoodIn wsX3_advise (wsV RX3 188 RX3 yX3_isTaken wsX3_isTaken) := goodIn_app (goodIn_of _ (by decide +kernel)) ggX3_advise_X3_isTaken
set_option maxRecDepth 20000 in
theorem ggX3_advise_X3_likenessToAll : GoodIn wsX3_advise wsX3_likenessToAll := goodIn_r _ [43, 14, 15, 44, 1, 2, 45, 16, 17, 18, 19, 20, 21, 22, 23, 24, 25, 26, 27, 28, 29, 30, 31, 32, 33, 34, 35, 36, 37, 38, 39, 46, 47, 48, 49, 50, 51, 52, 53, 54, 55, 56, 57, 58, 59, 60, 61, 62, 63, 64, 65, 66, 67, 68, 69, 71, 72, 73, 74, 75, 70, 76, 77, 78] (by decide +kernel) (by decide +kernel)
set_option maxRecDepth 20000 in
theorem gX3_advise_X3_likenessToAll : GoodIn wsX3_advise (wsV RX3 191 RX3 yX3_likenessToAll wsX3_likenessToAll) := goodIn_app (goodIn_of _ (by decide +kernel)) ggX3_advise_X3_likenessToAll
theorem dX3_advise_0 : decode cX3_advise 0 = .ok (.aload_n 0, 1) := by decide +kernel
theorem dX3_advise_1 : decode cX3_advise 1 = .ok (.iload_n 1, 1) := by decide +kernel
theorem dX3_advise_2 : decode cX3_advise 2 = .ok (.invokevirtual 100, 3) := by decide +kernel
theorem dX3_advise_5 : decode cX3_advise 5 = .ok (.iconst (-1), 1) := by decide +kernel
theorem dX3_advise_6 : decode cX3_advise 6 = .ok (.istore_n 2, 1) := by decide +kernel
theorem dX3_advise_7 : decode cX3_advise 7 = .ok (.iconst 0, 1) := by decide +kernel
theorem dX3_advise_8 : decode cX3_advise 8 = .ok (.istore_n 3, 1) := by decide +kernel
theorem dX3_advise_9 : decode cX3_advise 9 = .ok (.iconst 0, 1) := by decide +kernel
theorem dX3_advise_10 : decode cX3_advise 10 = .ok (.istore 4, 2) := by decide +kernel
theorem dX3_advise_12 : decode cX3_advise 12 = .ok (.iload 4, 2) := by decide +kernel
theorem dX3_advise_14 : decode cX3_advise 14 = .ok (.aload_n 0, 1) := by decide +kernel
theorem dX3_advise_15 : decode cX3_advise 15 = .ok (.getfield 12, 3) := by decide +kernel
theorem dX3_advise_18 : decode cX3_advise 18 = .ok (.getfield 39, 3) := by decide +kernel
theorem dX3_advise_21 : decode cX3_advise 21 = .ok (.if_icmp .ge 46, 3) := by decide +kernel
theorem dX3_advise_24 : decode cX3_advise 24 = .ok (.aload_n 0, 1) := by decide +kernel
theorem dX3_advise_25 : decode cX3_advise 25 = .ok (.iload 4, 2) := by decide +kernel
theorem dX3_advise_27 : decode cX3_advise 27 = .ok (.invokevirtual 188, 3) := by decide +kernel
theorem dX3_advise_30 : decode cX3_advise 30 = .ok (.ifCond .eq 6, 3) := by decide +kernel
theorem dX3_advise_33 : decode cX3_advise 33 = .ok (.goto 28, 3) := by decide +kernel
theorem dX3_advise_36 : decode cX3_advise 36 = .ok (.aload_n 0, 1) := by decide +kernel
theorem dX3_advise_37 : decode cX3_advise 37 = .ok (.iload 4, 2) := by decide +kernel
theorem dX3_advise_39 : decode cX3_advise 39 = .ok (.iload_n 1, 1) := by decide +kernel
theorem dX3_advise_40 : decode cX3_advise 40 = .ok (.invokevirtual 191, 3) := by decide +kernel
theorem dX3_advise_43 : decode cX3_advise 43 = .ok (.istore 5, 2) := by decide +kernel
theorem dX3_advise_45 : decode cX3_advise 45 = .ok (.iload_n 2, 1) := by decide +kernel
theorem dX3_advise_46 : decode cX3_advise 46 = .ok (.ifCond .lt 9, 3) := by decide +kernel
theorem dX3_advise_49 : decode cX3_advise 49 = .ok (.iload 5, 2) := by decide +kernel
theorem dX3_advise_51 : decode cX3_advise 51 = .ok (.iload_n 3, 1) := by decide +kernel
theorem dX3_advise_52 : decode cX3_advise 52 = .ok (.if_icmp .ge 9, 3) := by decide +kernel
theorem dX3_advise_55 : decode cX3_advise 55 = .ok (.iload 5, 2) := by decide +kernel
theorem dX3_advise_57 : decode cX3_advise 57 = .ok (.istore_n 3, 1) := by decide +kernel
theorem dX3_advise_58 : decode cX3_advise 58 = .ok (.iload 4, 2) := by decide +kernel
theorem dX3_advise_60 : decode cX3_advise 60 = .ok (.istore_n 2, 1) := by decide +kernel
theorem dX3_advise_61 : decode cX3_advise 61 = .ok (.iinc 4 1, 3) := by decide +kernel
theorem dX3_advise_64 : decode cX3_advise 64 = .ok (.goto (-52), 3) := by decide +kernel
theorem dX3_advise_67 : decode cX3_advise 67 = .ok (.iload_n 2, 1) := by decide +kernel
theorem dX3_advise_68 : decode cX3_advise 68 = .ok (.ireturn, 1) := by decide +kernel
set_option maxRecDepth 20000 in
theorem ggX3_would_X3_hillAt : GoodIn wsX3_would wsX3_hillAt := goodIn_ca (goodIn_r _ [5, 6, 7, 8, 9, 10, 11, 12, 13, 14, 15, 16, 17, 18, 19, 20, 21, 22, 23, 24, 25, 26, 27, 28, 29, 30, 31, 32, 108, 109, 110, 111, 112, 113] (by decide +kernel) (by decide +kernel)) (goodIn_sub (fun _ h => List.mem_cons_of_mem _ (List.mem_append_left _ (List.mem_append_right _ h))) (by decide +kernel))
set_option maxRecDepth 20000 in
theorem gX3_would_X3_hillAt : GoodIn wsX3_would (wsV RX3 74 RX3 yX3_hillAt wsX3_hillAt) := goodIn_app (goodIn_of _ (by decide +kernel)) ggX3_would_X3_hillAt
set_option maxRecDepth 20000 in
theorem ggX3_would_X3_checkStrength : GoodIn wsX3_would wsX3_checkStrength := goodIn_ca (goodIn_r _ [36, 37, 38] (by decide +kernel) (by decide +kernel)) (goodIn_sub (fun _ h => List.mem_cons_of_mem _ (List.mem_append_right _ h)) (by decide +kernel))
set_option maxRecDepth 20000 in
theorem gX3_would_X3_checkStrength : GoodIn wsX3_would (wsV RX3 53 RX3 yX3_checkStrength wsX3_checkStrength) := goodIn_app (goodIn_of _ (by decide +kernel)) ggX3_would_X3_checkStrength
set_option maxRecDepth 20000 in
theorem ggX3_would_X3_wrongWordsWith : GoodIn wsX3_would wsX3_wrongWordsWith := goodIn_r _ [42, 43, 44, 45, 46, 47, 48, 49, 50, 51, 52, 53, 54, 55, 56, 57, 58, 59, 60, 61, 62, 63, 64, 65, 66, 67, 68, 69, 70, 71, 72, 73, 74, 75, 76, 77, 78, 79, 80, 81, 82, 83, 84, 4, 85, 8, 9, 10, 11, 12, 13, 14, 15, 16, 17, 18, 19, 20, 21, 22, 23, 24, 25, 26, 27, 28, 29, 30, 31, 32, 86, 87, 88, 89, 90, 91, 92, 93, 94, 95, 96, 97, 98, 99, 100, 101, 102, 103, 104, 105, 106, 107, 114, 115, 116, 117, 118, 108, 109, 110, 119, 120, 121, 122, 111, 112, 113] (by decide +kernel) (by decide +kernel)
set_option maxRecDepth 20000 in
theorem gX3_would_X3_wrongWordsWith : GoodIn wsX3_would (wsV RX3 194 RX3 yX3_wrongWordsWith wsX3_wrongWordsWith) := goodIn_app (goodIn_of _ (by decide +kernel)) ggX3_would_X3_wrongWordsWith
theorem dX3_would_0 : decode cX3_would 0 = .ok (.aload_n 0, 1) := by decide +kernel
theorem dX3_would_1 : decode cX3_would 1 = .ok (.iload_n 1, 1) := by decide +kernel
theorem dX3_would_2 : decode cX3_would 2 = .ok (.invokevirtual 74, 3) := by decide +kernel
theorem dX3_would_5 : decode cX3_would 5 = .ok (.astore_n 3, 1) := by decide +kernel
theorem dX3_would_6 : decode cX3_would 6 = .ok (.aload_n 0, 1) := by decide +kernel
theorem dX3_would_7 : decode cX3_would 7 = .ok (.iload_n 2, 1) := by decide +kernel
theorem dX3_would_8 : decode cX3_would 8 = .ok (.invokevirtual 53, 3) := by decide +kernel
theorem dX3_would_11 : decode cX3_would 11 = .ok (.aload_n 0, 1) := by decide +kernel
theorem dX3_would_12 : decode cX3_would 12 = .ok (.aload_n 3, 1) := by decide +kernel
theorem dX3_would_13 : decode cX3_would 13 = .ok (.iload_n 2, 1) := by decide +kernel
theorem dX3_would_14 : decode cX3_would 14 = .ok (.invokevirtual 194, 3) := by decide +kernel
theorem dX3_would_17 : decode cX3_would 17 = .ok (.ireturn, 1) := by decide +kernel
set_option maxRecDepth 20000 in
theorem ggX3_tune_X3_hillAt : GoodIn wsX3_tune wsX3_hillAt := goodIn_ca (goodIn_r _ [5, 6, 7, 8, 9, 10, 11, 12, 13, 14, 15, 16, 17, 18, 19, 20, 21, 22, 23, 24, 25, 26, 27, 28, 29, 30, 31, 32, 102, 103, 104, 105, 106, 107] (by decide +kernel) (by decide +kernel)) (goodIn_sub (fun _ h => List.mem_cons_of_mem _ (List.mem_append_right _ h)) (by decide +kernel))
set_option maxRecDepth 20000 in
theorem gX3_tune_X3_hillAt : GoodIn wsX3_tune (wsV RX3 74 RX3 yX3_hillAt wsX3_hillAt) := goodIn_app (goodIn_of _ (by decide +kernel)) ggX3_tune_X3_hillAt
set_option maxRecDepth 20000 in
theorem ggX3_tune_X3_wrongWordsWith : GoodIn wsX3_tune wsX3_wrongWordsWith := goodIn_r _ [36, 37, 38, 39, 40, 41, 42, 43, 44, 45, 46, 47, 48, 49, 50, 51, 52, 53, 54, 55, 56, 57, 58, 59, 60, 61, 62, 63, 64, 65, 66, 67, 68, 69, 70, 71, 72, 73, 74, 75, 76, 77, 78, 4, 79, 8, 9, 10, 11, 12, 13, 14, 15, 16, 17, 18, 19, 20, 21, 22, 23, 24, 25, 26, 27, 28, 29, 30, 31, 32, 80, 81, 82, 83, 84, 85, 86, 87, 88, 89, 90, 91, 92, 93, 94, 95, 96, 97, 98, 99, 100, 101, 108, 109, 110, 111, 112, 102, 103, 104, 113, 114, 115, 116, 105, 106, 107] (by decide +kernel) (by decide +kernel)
set_option maxRecDepth 20000 in
theorem gX3_tune_X3_wrongWordsWith : GoodIn wsX3_tune (wsV RX3 194 RX3 yX3_wrongWordsWith wsX3_wrongWordsWith) := goodIn_app (goodIn_of _ (by decide +kernel)) ggX3_tune_X3_wrongWordsWith
theorem dX3_tune_0 : decode cX3_tune 0 = .ok (.aload_n 0, 1) := by decide +kernel
theorem dX3_tune_1 : decode cX3_tune 1 = .ok (.iload_n 1, 1) := by decide +kernel
theorem dX3_tune_2 : decode cX3_tune 2 = .ok (.invokevirtual 74, 3) := by decide +kernel
theorem dX3_tune_5 : decode cX3_tune 5 = .ok (.astore_n 2, 1) := by decide +kernel
theorem dX3_tune_6 : decode cX3_tune 6 = .ok (.iconst 1, 1) := by decide +kernel
theorem dX3_tune_7 : decode cX3_tune 7 = .ok (.istore_n 3, 1) := by decide +kernel
theorem dX3_tune_8 : decode cX3_tune 8 = .ok (.aload_n 0, 1) := by decide +kernel
theorem dX3_tune_9 : decode cX3_tune 9 = .ok (.aload_n 2, 1) := by decide +kernel
theorem dX3_tune_10 : decode cX3_tune 10 = .ok (.iconst 1, 1) := by decide +kernel
theorem dX3_tune_11 : decode cX3_tune 11 = .ok (.invokevirtual 194, 3) := by decide +kernel
theorem dX3_tune_14 : decode cX3_tune 14 = .ok (.istore 4, 2) := by decide +kernel
theorem dX3_tune_16 : decode cX3_tune 16 = .ok (.iconst 2, 1) := by decide +kernel
theorem dX3_tune_17 : decode cX3_tune 17 = .ok (.istore 5, 2) := by decide +kernel
theorem dX3_tune_19 : decode cX3_tune 19 = .ok (.iload 5, 2) := by decide +kernel
theorem dX3_tune_21 : decode cX3_tune 21 = .ok (.bipush 9, 2) := by decide +kernel
theorem dX3_tune_23 : decode cX3_tune 23 = .ok (.if_icmp .gt 32, 3) := by decide +kernel
theorem dX3_tune_26 : decode cX3_tune 26 = .ok (.aload_n 0, 1) := by decide +kernel
theorem dX3_tune_27 : decode cX3_tune 27 = .ok (.aload_n 2, 1) := by decide +kernel
theorem dX3_tune_28 : decode cX3_tune 28 = .ok (.iload 5, 2) := by decide +kernel
theorem dX3_tune_30 : decode cX3_tune 30 = .ok (.invokevirtual 194, 3) := by decide +kernel
theorem dX3_tune_33 : decode cX3_tune 33 = .ok (.istore 6, 2) := by decide +kernel
theorem dX3_tune_35 : decode cX3_tune 35 = .ok (.iload 6, 2) := by decide +kernel
theorem dX3_tune_37 : decode cX3_tune 37 = .ok (.iload 4, 2) := by decide +kernel
theorem dX3_tune_39 : decode cX3_tune 39 = .ok (.if_icmp .ge 10, 3) := by decide +kernel
theorem dX3_tune_42 : decode cX3_tune 42 = .ok (.iload 6, 2) := by decide +kernel
theorem dX3_tune_44 : decode cX3_tune 44 = .ok (.istore 4, 2) := by decide +kernel
theorem dX3_tune_46 : decode cX3_tune 46 = .ok (.iload 5, 2) := by decide +kernel
theorem dX3_tune_48 : decode cX3_tune 48 = .ok (.istore_n 3, 1) := by decide +kernel
theorem dX3_tune_49 : decode cX3_tune 49 = .ok (.iinc 5 1, 3) := by decide +kernel
theorem dX3_tune_52 : decode cX3_tune 52 = .ok (.goto (-33), 3) := by decide +kernel
theorem dX3_tune_55 : decode cX3_tune 55 = .ok (.iload_n 3, 1) := by decide +kernel
theorem dX3_tune_56 : decode cX3_tune 56 = .ok (.ireturn, 1) := by decide +kernel
set_option maxRecDepth 20000 in
theorem ggX3_mean_X3_endOfAll : GoodIn wsX3_mean wsX3_endOfAll := goodIn_r _ [6, 7, 8, 9, 10, 11, 12, 13, 14, 15, 16, 17, 18, 19, 20, 21, 22, 23, 24, 25, 26, 27, 28, 29, 30, 31, 32, 33, 34, 35, 36, 37, 38, 39, 40, 41, 42, 43, 44, 45, 46, 47, 48, 60, 61, 62, 63, 64, 65, 66, 67, 68, 69, 70, 71] (by decide +kernel) (by decide +kernel)
set_option maxRecDepth 20000 in
theorem gX3_mean_X3_endOfAll : GoodIn wsX3_mean (wsV RX3 173 RX3 yX3_endOfAll wsX3_endOfAll) := goodIn_app (goodIn_of _ (by decide +kernel)) ggX3_mean_X3_endOfAll
set_option maxRecDepth 20000 in
theorem ggX3_mean_X2_sum : GoodIn wsX3_mean wsX2_sum := goodIn_r _ [53, 54, 55, 56, 52, 57, 58, 59, 72, 73, 74] (by decide +kernel) (by decide +kernel)
set_option maxRecDepth 20000 in
theorem gX3_mean_X2_sum : GoodIn wsX3_mean (wsV RX3 197 RX2 yX2_sum wsX2_sum) := goodIn_app (goodIn_of _ (by decide +kernel)) ggX3_mean_X2_sum
theorem dX3_mean_0 : decode cX3_mean 0 = .ok (.aload_n 0, 1) := by decide +kernel
theorem dX3_mean_1 : decode cX3_mean 1 = .ok (.invokevirtual 173, 3) := by decide +kernel
theorem dX3_mean_4 : decode cX3_mean 4 = .ok (.istore_n 1, 1) := by decide +kernel
theorem dX3_mean_5 : decode cX3_mean 5 = .ok (.iload_n 1, 1) := by decide +kernel
theorem dX3_mean_6 : decode cX3_mean 6 = .ok (.ifCond .gt 5, 3) := by decide +kernel
theorem dX3_mean_9 : decode cX3_mean 9 = .ok (.dconst 0, 1) := by decide +kernel
theorem dX3_mean_10 : decode cX3_mean 10 = .ok (.dreturn, 1) := by decide +kernel
theorem dX3_mean_11 : decode cX3_mean 11 = .ok (.aload_n 0, 1) := by decide +kernel
theorem dX3_mean_12 : decode cX3_mean 12 = .ok (.getfield 21, 3) := by decide +kernel
theorem dX3_mean_15 : decode cX3_mean 15 = .ok (.iload_n 1, 1) := by decide +kernel
theorem dX3_mean_16 : decode cX3_mean 16 = .ok (.invokevirtual 197, 3) := by decide +kernel
theorem dX3_mean_19 : decode cX3_mean 19 = .ok (.i2d, 1) := by decide +kernel
theorem dX3_mean_20 : decode cX3_mean 20 = .ok (.iload_n 1, 1) := by decide +kernel
theorem dX3_mean_21 : decode cX3_mean 21 = .ok (.i2d, 1) := by decide +kernel
theorem dX3_mean_22 : decode cX3_mean 22 = .ok (.ddiv, 1) := by decide +kernel
theorem dX3_mean_23 : decode cX3_mean 23 = .ok (.dreturn, 1) := by decide +kernel
set_option maxRecDepth 20000 in
theorem ggX3_digest_X3_count : GoodIn wsX3_digest wsX3_count := goodIn_ca (goodIn_r _ [10, 11, 12, 13, 14, 5, 3, 15, 16, 17, 18, 19, 20, 21, 22, 23, 9, 24, 25, 26, 27, 28, 29, 30, 31, 32, 33, 34, 35, 36, 37, 38, 39, 40, 41, 42, 43, 44, 45, 46, 47, 48, 49, 50, 51, 52, 53, 54, 55, 56, 57, 58, 59, 60, 61, 62, 63, 64, 65, 66, 67, 68, 69, 70, 71, 72, 73, 74, 75, 76, 77, 78, 79, 80, 81, 82, 83, 84, 85, 86, 87, 88, 89, 90, 91, 92, 93, 94, 95, 96, 97, 98, 99, 100, 101, 102, 103, 104, 105, 106, 107, 108, 109, 110, 111, 112, 113, 114, 115, 116, 117, 118, 119, 120, 121, 122, 123, 124, 125, 126, 127, 128, 154, 155, 156, 160, 161, 162, 163, 164, 165, 166, 167, 168, 157, 158, 159] (by decide +kernel) (by decide +kernel)) (goodIn_sub (fun _ h => List.mem_cons_of_mem _ (List.mem_append_right _ h)) (by decide +kernel))
set_option maxRecDepth 20000 in
theorem gX3_digest_X3_count : GoodIn wsX3_digest (wsV RX3 204 RX3 yX3_count wsX3_count) := goodIn_app (goodIn_of _ (by decide +kernel)) ggX3_digest_X3_count
set_option maxRecDepth 20000 in
theorem ggX3_digest_Jx4a65c_size_8abf5 : GoodIn wsX3_digest wsJx4a65c_size_8abf5 := goodIn_r _ [19, 20, 161, 162, 163] (by decide +kernel) (by decide +kernel)
set_option maxRecDepth 20000 in
theorem gX3_digest_Jx4a65c_size_8abf5 : GoodIn wsX3_digest (wsV RX3 56 RJx4a65c yJx4a65c_size_8abf5 wsJx4a65c_size_8abf5) := goodIn_app (goodIn_of _ (by decide +kernel)) ggX3_digest_Jx4a65c_size_8abf5
set_option maxRecDepth 20000 in
theorem ggX3_digest_X3_digestHill : GoodIn wsX3_digest wsX3_digestHill := goodIn_ca (goodIn_r _ [132, 2, 26, 133, 134, 135, 9, 136, 11, 12, 128, 137, 138, 3, 13, 14, 139, 140, 141, 142, 5, 25, 15, 16, 17, 18, 19, 20, 27, 28, 29, 30, 31, 32, 33, 34, 35, 36, 37, 38, 39, 40, 41, 42, 43, 48, 49, 50, 51, 52, 53, 54, 55, 56, 57, 58, 59, 60, 61, 62, 63, 64, 65, 66, 67, 68, 69, 70, 71, 72, 73, 74, 75, 76, 77, 78, 79, 80, 81, 82, 83, 84, 85, 86, 87, 88, 89, 90, 91, 92, 93, 94, 95, 96, 97, 106, 107, 108, 109, 110, 111, 143, 144, 145, 146, 116, 117, 104, 118, 147, 148, 149, 150, 151, 152, 153, 164, 165, 166, 167, 168, 154, 155, 156, 160, 161, 162, 163, 157, 158, 159] (by decide +kernel) (by decide +kernel)) (goodIn_sub (fun _ h => List.mem_cons_of_mem _ (List.mem_append_right _ h)) (by decide +kernel))
set_option maxRecDepth 20000 in
theorem gX3_digest_X3_digestHill : GoodIn wsX3_digest (wsV RX3 207 RX3 yX3_digestHill wsX3_digestHill) := goodIn_app (goodIn_of _ (by decide +kernel)) ggX3_digest_X3_digestHill
theorem dX3_digest_0 : decode cX3_digest 0 = .ok (.ldc2_w 200, 3) := by decide +kernel
theorem dX3_digest_3 : decode cX3_digest 3 = .ok (.lstore_n 1, 1) := by decide +kernel
theorem dX3_digest_4 : decode cX3_digest 4 = .ok (.iconst 0, 1) := by decide +kernel
theorem dX3_digest_5 : decode cX3_digest 5 = .ok (.istore_n 3, 1) := by decide +kernel
theorem dX3_digest_6 : decode cX3_digest 6 = .ok (.iload_n 3, 1) := by decide +kernel
theorem dX3_digest_7 : decode cX3_digest 7 = .ok (.bipush 7, 2) := by decide +kernel
theorem dX3_digest_9 : decode cX3_digest 9 = .ok (.if_icmp .ge 22, 3) := by decide +kernel
theorem dX3_digest_12 : decode cX3_digest 12 = .ok (.lload_n 1, 1) := by decide +kernel
theorem dX3_digest_13 : decode cX3_digest 13 = .ok (.ldc2_w 202, 3) := by decide +kernel
theorem dX3_digest_16 : decode cX3_digest 16 = .ok (.lmul, 1) := by decide +kernel
theorem dX3_digest_17 : decode cX3_digest 17 = .ok (.aload_n 0, 1) := by decide +kernel
theorem dX3_digest_18 : decode cX3_digest 18 = .ok (.iload_n 3, 1) := by decide +kernel
theorem dX3_digest_19 : decode cX3_digest 19 = .ok (.invokevirtual 204, 3) := by decide +kernel
theorem dX3_digest_22 : decode cX3_digest 22 = .ok (.i2l, 1) := by decide +kernel
theorem dX3_digest_23 : decode cX3_digest 23 = .ok (.ladd, 1) := by decide +kernel
theorem dX3_digest_24 : decode cX3_digest 24 = .ok (.lstore_n 1, 1) := by decide +kernel
theorem dX3_digest_25 : decode cX3_digest 25 = .ok (.iinc 3 1, 3) := by decide +kernel
theorem dX3_digest_28 : decode cX3_digest 28 = .ok (.goto (-22), 3) := by decide +kernel
theorem dX3_digest_31 : decode cX3_digest 31 = .ok (.aload_n 0, 1) := by decide +kernel
theorem dX3_digest_32 : decode cX3_digest 32 = .ok (.getfield 21, 3) := by decide +kernel
theorem dX3_digest_35 : decode cX3_digest 35 = .ok (.getfield 113, 3) := by decide +kernel
theorem dX3_digest_38 : decode cX3_digest 38 = .ok (.astore_n 3, 1) := by decide +kernel
theorem dX3_digest_39 : decode cX3_digest 39 = .ok (.aload_n 3, 1) := by decide +kernel
theorem dX3_digest_40 : decode cX3_digest 40 = .ok (.arraylength, 1) := by decide +kernel
theorem dX3_digest_41 : decode cX3_digest 41 = .ok (.istore 4, 2) := by decide +kernel
theorem dX3_digest_43 : decode cX3_digest 43 = .ok (.iconst 0, 1) := by decide +kernel
theorem dX3_digest_44 : decode cX3_digest 44 = .ok (.istore 5, 2) := by decide +kernel
theorem dX3_digest_46 : decode cX3_digest 46 = .ok (.iload 5, 2) := by decide +kernel
theorem dX3_digest_48 : decode cX3_digest 48 = .ok (.iload 4, 2) := by decide +kernel
theorem dX3_digest_50 : decode cX3_digest 50 = .ok (.if_icmp .ge 25, 3) := by decide +kernel
theorem dX3_digest_53 : decode cX3_digest 53 = .ok (.aload_n 3, 1) := by decide +kernel
theorem dX3_digest_54 : decode cX3_digest 54 = .ok (.iload 5, 2) := by decide +kernel
theorem dX3_digest_56 : decode cX3_digest 56 = .ok (.iaload, 1) := by decide +kernel
theorem dX3_digest_57 : decode cX3_digest 57 = .ok (.istore 6, 2) := by decide +kernel
theorem dX3_digest_59 : decode cX3_digest 59 = .ok (.lload_n 1, 1) := by decide +kernel
theorem dX3_digest_60 : decode cX3_digest 60 = .ok (.ldc2_w 202, 3) := by decide +kernel
theorem dX3_digest_63 : decode cX3_digest 63 = .ok (.lmul, 1) := by decide +kernel
theorem dX3_digest_64 : decode cX3_digest 64 = .ok (.iload 6, 2) := by decide +kernel
theorem dX3_digest_66 : decode cX3_digest 66 = .ok (.i2l, 1) := by decide +kernel
theorem dX3_digest_67 : decode cX3_digest 67 = .ok (.ladd, 1) := by decide +kernel
theorem dX3_digest_68 : decode cX3_digest 68 = .ok (.lstore_n 1, 1) := by decide +kernel
theorem dX3_digest_69 : decode cX3_digest 69 = .ok (.iinc 5 1, 3) := by decide +kernel
theorem dX3_digest_72 : decode cX3_digest 72 = .ok (.goto (-26), 3) := by decide +kernel
theorem dX3_digest_75 : decode cX3_digest 75 = .ok (.iconst 0, 1) := by decide +kernel
theorem dX3_digest_76 : decode cX3_digest 76 = .ok (.istore_n 3, 1) := by decide +kernel
theorem dX3_digest_77 : decode cX3_digest 77 = .ok (.iload_n 3, 1) := by decide +kernel
theorem dX3_digest_78 : decode cX3_digest 78 = .ok (.aload_n 0, 1) := by decide +kernel
theorem dX3_digest_79 : decode cX3_digest 79 = .ok (.getfield 28, 3) := by decide +kernel
theorem dX3_digest_82 : decode cX3_digest 82 = .ok (.invokevirtual 56, 3) := by decide +kernel
theorem dX3_digest_85 : decode cX3_digest 85 = .ok (.if_icmp .ge 16, 3) := by decide +kernel
theorem dX3_digest_88 : decode cX3_digest 88 = .ok (.aload_n 0, 1) := by decide +kernel
theorem dX3_digest_89 : decode cX3_digest 89 = .ok (.lload_n 1, 1) := by decide +kernel
theorem dX3_digest_90 : decode cX3_digest 90 = .ok (.iload_n 3, 1) := by decide +kernel
theorem dX3_digest_91 : decode cX3_digest 91 = .ok (.invokevirtual 207, 3) := by decide +kernel
theorem dX3_digest_94 : decode cX3_digest 94 = .ok (.lstore_n 1, 1) := by decide +kernel
theorem dX3_digest_95 : decode cX3_digest 95 = .ok (.iinc 3 1, 3) := by decide +kernel
theorem dX3_digest_98 : decode cX3_digest 98 = .ok (.goto (-21), 3) := by decide +kernel
theorem dX3_digest_101 : decode cX3_digest 101 = .ok (.lload_n 1, 1) := by decide +kernel
theorem dX3_digest_102 : decode cX3_digest 102 = .ok (.lreturn, 1) := by decide +kernel
set_option maxRecDepth 20000 in
theorem ggX3_digestHill_X3_about : GoodIn wsX3_digestHill wsX3_about := goodIn_ca (goodIn_r _ [7, 8, 9, 10, 11, 12, 2, 13, 14, 15, 16, 17, 18, 6, 19, 20, 21, 22, 23, 24, 25, 26, 27, 28, 29, 30, 31, 32, 33, 34, 35, 36, 37, 38, 39, 40, 41, 42, 43, 44, 45, 46, 47, 48, 49, 50, 51, 52, 53, 54, 55, 56, 57, 58, 59, 60, 61, 62, 63, 64, 65, 66, 67, 68, 69, 70, 71, 72, 73, 74, 75, 76, 77, 78, 79, 80, 81, 82, 83, 84, 85, 86, 87, 88, 89, 90, 91, 92, 93, 94, 95, 96, 97, 98, 99, 100, 101, 102, 103, 104, 105, 106, 107, 108, 116, 117, 118, 119, 120, 121, 122, 123, 124, 125, 126, 127, 128, 129, 130] (by decide +kernel) (by decide +kernel)) (goodIn_sub (fun _ h => List.mem_cons_of_mem _ (List.mem_append_right _ h)) (by decide +kernel))
set_option maxRecDepth 20000 in
theorem gX3_digestHill_X3_about : GoodIn wsX3_digestHill (wsV RX3 211 RX3 yX3_about wsX3_about) := goodIn_app (goodIn_of _ (by decide +kernel)) ggX3_digestHill_X3_about
set_option maxRecDepth 20000 in
theorem ggX3_digestHill_X3_hillAt : GoodIn wsX3_digestHill wsX3_hillAt := goodIn_ca (goodIn_r _ [19, 8, 9, 20, 21, 22, 23, 24, 25, 26, 27, 28, 29, 30, 31, 32, 33, 34, 35, 36, 37, 38, 39, 40, 41, 42, 43, 44, 121, 122, 123, 125, 126, 127] (by decide +kernel) (by decide +kernel)) (goodIn_sub (fun _ h => List.mem_cons_of_mem _ (List.mem_append_right _ h)) (by decide +kernel))
set_option maxRecDepth 20000 in
theorem gX3_digestHill_X3_hillAt : GoodIn wsX3_digestHill (wsV RX3 74 RX3 yX3_hillAt wsX3_hillAt) := goodIn_app (goodIn_of _ (by decide +kernel)) ggX3_digestHill_X3_hillAt
set_option maxRecDepth 20000 in
theorem ggX3_digestHill_X3_word : GoodIn wsX3_digestHill wsX3_word := goodIn_ca (goodIn_r _ [112, 8, 9, 2, 13, 16, 17, 18, 6, 19, 20, 21, 22, 23, 24, 25, 26, 27, 28, 29, 30, 31, 32, 33, 34, 35, 36, 37, 38, 39, 40, 41, 42, 43, 44, 113, 91, 92, 61, 93, 94, 114, 52, 53, 48, 54, 55, 56, 57, 58, 59, 60, 62, 63, 64, 65, 66, 67, 68, 69, 70, 71, 72, 73, 74, 75, 76, 77, 78, 79, 80, 81, 82, 83, 84, 85, 115, 87, 88, 89, 90, 116, 117, 118, 119, 120, 121, 122, 123, 125, 126, 127, 128, 129, 130, 124] (by decide +kernel) (by decide +kernel)) (goodIn_sub (fun _ h => List.mem_cons_of_mem _ (List.mem_append_right _ h)) (by decide +kernel))
set_option maxRecDepth 20000 in
theorem gX3_digestHill_X3_word : GoodIn wsX3_digestHill (wsV RX3 214 RX3 yX3_word wsX3_word) := goodIn_app (goodIn_of _ (by decide +kernel)) ggX3_digestHill_X3_word
theorem dX3_digestHill_0 : decode cX3_digestHill 0 = .ok (.lload_n 1, 1) := by decide +kernel
theorem dX3_digestHill_1 : decode cX3_digestHill 1 = .ok (.lstore 4, 2) := by decide +kernel
theorem dX3_digestHill_3 : decode cX3_digestHill 3 = .ok (.iconst 0, 1) := by decide +kernel
theorem dX3_digestHill_4 : decode cX3_digestHill 4 = .ok (.istore 6, 2) := by decide +kernel
theorem dX3_digestHill_6 : decode cX3_digestHill 6 = .ok (.iload 6, 2) := by decide +kernel
theorem dX3_digestHill_8 : decode cX3_digestHill 8 = .ok (.bipush 7, 2) := by decide +kernel
theorem dX3_digestHill_10 : decode cX3_digestHill 10 = .ok (.if_icmp .ge 26, 3) := by decide +kernel
theorem dX3_digestHill_13 : decode cX3_digestHill 13 = .ok (.lload 4, 2) := by decide +kernel
theorem dX3_digestHill_15 : decode cX3_digestHill 15 = .ok (.ldc2_w 202, 3) := by decide +kernel
theorem dX3_digestHill_18 : decode cX3_digestHill 18 = .ok (.lmul, 1) := by decide +kernel
theorem dX3_digestHill_19 : decode cX3_digestHill 19 = .ok (.aload_n 0, 1) := by decide +kernel
theorem dX3_digestHill_20 : decode cX3_digestHill 20 = .ok (.iload_n 3, 1) := by decide +kernel
theorem dX3_digestHill_21 : decode cX3_digestHill 21 = .ok (.iload 6, 2) := by decide +kernel
theorem dX3_digestHill_23 : decode cX3_digestHill 23 = .ok (.invokevirtual 211, 3) := by decide +kernel
theorem dX3_digestHill_26 : decode cX3_digestHill 26 = .ok (.i2l, 1) := by decide +kernel
theorem dX3_digestHill_27 : decode cX3_digestHill 27 = .ok (.ladd, 1) := by decide +kernel
theorem dX3_digestHill_28 : decode cX3_digestHill 28 = .ok (.lstore 4, 2) := by decide +kernel
theorem dX3_digestHill_30 : decode cX3_digestHill 30 = .ok (.iinc 6 1, 3) := by decide +kernel
theorem dX3_digestHill_33 : decode cX3_digestHill 33 = .ok (.goto (-27), 3) := by decide +kernel
theorem dX3_digestHill_36 : decode cX3_digestHill 36 = .ok (.aload_n 0, 1) := by decide +kernel
theorem dX3_digestHill_37 : decode cX3_digestHill 37 = .ok (.iload_n 3, 1) := by decide +kernel
theorem dX3_digestHill_38 : decode cX3_digestHill 38 = .ok (.invokevirtual 74, 3) := by decide +kernel
theorem dX3_digestHill_41 : decode cX3_digestHill 41 = .ok (.getfield 86, 3) := by decide +kernel
theorem dX3_digestHill_44 : decode cX3_digestHill 44 = .ok (.istore 6, 2) := by decide +kernel
theorem dX3_digestHill_46 : decode cX3_digestHill 46 = .ok (.iconst 0, 1) := by decide +kernel
theorem dX3_digestHill_47 : decode cX3_digestHill 47 = .ok (.istore 7, 2) := by decide +kernel
theorem dX3_digestHill_49 : decode cX3_digestHill 49 = .ok (.iload 7, 2) := by decide +kernel
theorem dX3_digestHill_51 : decode cX3_digestHill 51 = .ok (.iload 6, 2) := by decide +kernel
theorem dX3_digestHill_53 : decode cX3_digestHill 53 = .ok (.if_icmp .ge 43, 3) := by decide +kernel
theorem dX3_digestHill_56 : decode cX3_digestHill 56 = .ok (.iconst 0, 1) := by decide +kernel
theorem dX3_digestHill_57 : decode cX3_digestHill 57 = .ok (.istore 8, 2) := by decide +kernel
theorem dX3_digestHill_59 : decode cX3_digestHill 59 = .ok (.iload 8, 2) := by decide +kernel
theorem dX3_digestHill_61 : decode cX3_digestHill 61 = .ok (.iconst 3, 1) := by decide +kernel
theorem dX3_digestHill_62 : decode cX3_digestHill 62 = .ok (.if_icmp .ge 28, 3) := by decide +kernel
theorem dX3_digestHill_65 : decode cX3_digestHill 65 = .ok (.lload 4, 2) := by decide +kernel
theorem dX3_digestHill_67 : decode cX3_digestHill 67 = .ok (.ldc2_w 202, 3) := by decide +kernel
theorem dX3_digestHill_70 : decode cX3_digestHill 70 = .ok (.lmul, 1) := by decide +kernel
theorem dX3_digestHill_71 : decode cX3_digestHill 71 = .ok (.aload_n 0, 1) := by decide +kernel
theorem dX3_digestHill_72 : decode cX3_digestHill 72 = .ok (.iload_n 3, 1) := by decide +kernel
theorem dX3_digestHill_73 : decode cX3_digestHill 73 = .ok (.iload 7, 2) := by decide +kernel
theorem dX3_digestHill_75 : decode cX3_digestHill 75 = .ok (.iload 8, 2) := by decide +kernel
theorem dX3_digestHill_77 : decode cX3_digestHill 77 = .ok (.invokevirtual 214, 3) := by decide +kernel
theorem dX3_digestHill_80 : decode cX3_digestHill 80 = .ok (.i2l, 1) := by decide +kernel
theorem dX3_digestHill_81 : decode cX3_digestHill 81 = .ok (.ladd, 1) := by decide +kernel
theorem dX3_digestHill_82 : decode cX3_digestHill 82 = .ok (.lstore 4, 2) := by decide +kernel
theorem dX3_digestHill_84 : decode cX3_digestHill 84 = .ok (.iinc 8 1, 3) := by decide +kernel
theorem dX3_digestHill_87 : decode cX3_digestHill 87 = .ok (.goto (-28), 3) := by decide +kernel
theorem dX3_digestHill_90 : decode cX3_digestHill 90 = .ok (.iinc 7 1, 3) := by decide +kernel
theorem dX3_digestHill_93 : decode cX3_digestHill 93 = .ok (.goto (-44), 3) := by decide +kernel
theorem dX3_digestHill_96 : decode cX3_digestHill 96 = .ok (.lload 4, 2) := by decide +kernel
theorem dX3_digestHill_98 : decode cX3_digestHill 98 = .ok (.lreturn, 1) := by decide +kernel
set_option maxRecDepth 20000 in
theorem ggX3_hillAt_Jx4a65c_size_8abf5 : GoodIn wsX3_hillAt wsJx4a65c_size_8abf5 := goodIn_r _ [9, 10, 31, 32, 33] (by decide +kernel) (by decide +kernel)
set_option maxRecDepth 20000 in
theorem gX3_hillAt_Jx4a65c_size_8abf5 : GoodIn wsX3_hillAt (wsV RX3 56 RJx4a65c yJx4a65c_size_8abf5 wsJx4a65c_size_8abf5) := goodIn_app (goodIn_of _ (by decide +kernel)) ggX3_hillAt_Jx4a65c_size_8abf5
set_option maxRecDepth 20000 in
theorem ggX3_hillAt_Jx4a65c_get_915e3 : GoodIn wsX3_hillAt wsJx4a65c_get_915e3 := goodIn_r _ [14, 10, 15, 16, 17, 18, 19, 20, 21, 22, 23, 24, 25, 8, 26, 27, 31, 32, 33] (by decide +kernel) (by decide +kernel)
set_option maxRecDepth 20000 in
theorem gX3_hillAt_Jx4a65c_get_915e3 : GoodIn wsX3_hillAt (wsV RX3 219 RJx4a65c yJx4a65c_get_915e3 wsJx4a65c_get_915e3) := goodIn_app (goodIn_of _ (by decide +kernel)) ggX3_hillAt_Jx4a65c_get_915e3
theorem dX3_hillAt_0 : decode cX3_hillAt 0 = .ok (.iload_n 1, 1) := by decide +kernel
theorem dX3_hillAt_1 : decode cX3_hillAt 1 = .ok (.ifCond .lt 14, 3) := by decide +kernel
theorem dX3_hillAt_4 : decode cX3_hillAt 4 = .ok (.iload_n 1, 1) := by decide +kernel
theorem dX3_hillAt_5 : decode cX3_hillAt 5 = .ok (.aload_n 0, 1) := by decide +kernel
theorem dX3_hillAt_6 : decode cX3_hillAt 6 = .ok (.getfield 28, 3) := by decide +kernel
theorem dX3_hillAt_9 : decode cX3_hillAt 9 = .ok (.invokevirtual 56, 3) := by decide +kernel
theorem dX3_hillAt_12 : decode cX3_hillAt 12 = .ok (.if_icmp .lt 13, 3) := by decide +kernel
theorem dX3_hillAt_15 : decode cX3_hillAt 15 = .ok (.new 106, 3) := by decide +kernel
theorem dX3_hillAt_18 : decode cX3_hillAt 18 = .ok (.dup, 1) := by decide +kernel
theorem dX3_hillAt_19 : decode cX3_hillAt 19 = .ok (.ldc 217, 2) := by decide +kernel
theorem dX3_hillAt_21 : decode cX3_hillAt 21 = .ok (.invokespecial 110, 3) := by decide +kernel
theorem dX3_hillAt_24 : decode cX3_hillAt 24 = .ok (.athrow, 1) := by decide +kernel
theorem dX3_hillAt_25 : decode cX3_hillAt 25 = .ok (.aload_n 0, 1) := by decide +kernel
theorem dX3_hillAt_26 : decode cX3_hillAt 26 = .ok (.getfield 28, 3) := by decide +kernel
theorem dX3_hillAt_29 : decode cX3_hillAt 29 = .ok (.iload_n 1, 1) := by decide +kernel
theorem dX3_hillAt_30 : decode cX3_hillAt 30 = .ok (.invokevirtual 219, 3) := by decide +kernel
theorem dX3_hillAt_33 : decode cX3_hillAt 33 = .ok (.checkcast 65, 3) := by decide +kernel
theorem dX3_hillAt_36 : decode cX3_hillAt 36 = .ok (.areturn, 1) := by decide +kernel
set_option maxRecDepth 20000 in
theorem ggX3_checkCode_X0_has : GoodIn wsX3_checkCode wsX0_has := goodIn_r _ [8, 9, 13] (by decide +kernel) (by decide +kernel)
set_option maxRecDepth 20000 in
theorem gX3_checkCode_X0_has : GoodIn wsX3_checkCode (wsV RX3 117 RX0 yX0_has wsX0_has) := goodIn_app (goodIn_of _ (by decide +kernel)) ggX3_checkCode_X0_has
theorem dX3_checkCode_0 : decode cX3_checkCode 0 = .ok (.aload_n 0, 1) := by decide +kernel
theorem dX3_checkCode_1 : decode cX3_checkCode 1 = .ok (.getfield 12, 3) := by decide +kernel
theorem dX3_checkCode_4 : decode cX3_checkCode 4 = .ok (.iload_n 1, 1) := by decide +kernel
theorem dX3_checkCode_5 : decode cX3_checkCode 5 = .ok (.invokevirtual 117, 3) := by decide +kernel
theorem dX3_checkCode_8 : decode cX3_checkCode 8 = .ok (.ifCond .ne 13, 3) := by decide +kernel
theorem dX3_checkCode_11 : decode cX3_checkCode 11 = .ok (.new 106, 3) := by decide +kernel
theorem dX3_checkCode_14 : decode cX3_checkCode 14 = .ok (.dup, 1) := by decide +kernel
theorem dX3_checkCode_15 : decode cX3_checkCode 15 = .ok (.ldc 223, 2) := by decide +kernel
theorem dX3_checkCode_17 : decode cX3_checkCode 17 = .ok (.invokespecial 110, 3) := by decide +kernel
theorem dX3_checkCode_20 : decode cX3_checkCode 20 = .ok (.athrow, 1) := by decide +kernel
theorem dX3_checkCode_21 : decode cX3_checkCode 21 = .ok (.return_, 1) := by decide +kernel
theorem dX3_checkStrength_0 : decode cX3_checkStrength 0 = .ok (.iload_n 1, 1) := by decide +kernel
theorem dX3_checkStrength_1 : decode cX3_checkStrength 1 = .ok (.iconst 1, 1) := by decide +kernel
theorem dX3_checkStrength_2 : decode cX3_checkStrength 2 = .ok (.if_icmp .lt 9, 3) := by decide +kernel
theorem dX3_checkStrength_5 : decode cX3_checkStrength 5 = .ok (.iload_n 1, 1) := by decide +kernel
theorem dX3_checkStrength_6 : decode cX3_checkStrength 6 = .ok (.bipush 9, 2) := by decide +kernel
theorem dX3_checkStrength_8 : decode cX3_checkStrength 8 = .ok (.if_icmp .le 13, 3) := by decide +kernel
theorem dX3_checkStrength_11 : decode cX3_checkStrength 11 = .ok (.new 32, 3) := by decide +kernel
theorem dX3_checkStrength_14 : decode cX3_checkStrength 14 = .ok (.dup, 1) := by decide +kernel
theorem dX3_checkStrength_15 : decode cX3_checkStrength 15 = .ok (.ldc 225, 2) := by decide +kernel
theorem dX3_checkStrength_17 : decode cX3_checkStrength 17 = .ok (.invokespecial 36, 3) := by decide +kernel
theorem dX3_checkStrength_20 : decode cX3_checkStrength 20 = .ok (.athrow, 1) := by decide +kernel
theorem dX3_checkStrength_21 : decode cX3_checkStrength 21 = .ok (.return_, 1) := by decide +kernel
theorem dX3_checkDelay_0 : decode cX3_checkDelay 0 = .ok (.iload_n 1, 1) := by decide +kernel
theorem dX3_checkDelay_1 : decode cX3_checkDelay 1 = .ok (.ifCond .lt 14, 3) := by decide +kernel
theorem dX3_checkDelay_4 : decode cX3_checkDelay 4 = .ok (.iload_n 1, 1) := by decide +kernel
theorem dX3_checkDelay_5 : decode cX3_checkDelay 5 = .ok (.aload_n 0, 1) := by decide +kernel
theorem dX3_checkDelay_6 : decode cX3_checkDelay 6 = .ok (.getfield 12, 3) := by decide +kernel
theorem dX3_checkDelay_9 : decode cX3_checkDelay 9 = .ok (.getfield 39, 3) := by decide +kernel
theorem dX3_checkDelay_12 : decode cX3_checkDelay 12 = .ok (.if_icmp .lt 13, 3) := by decide +kernel
theorem dX3_checkDelay_15 : decode cX3_checkDelay 15 = .ok (.new 32, 3) := by decide +kernel
theorem dX3_checkDelay_18 : decode cX3_checkDelay 18 = .ok (.dup, 1) := by decide +kernel
theorem dX3_checkDelay_19 : decode cX3_checkDelay 19 = .ok (.ldc 227, 2) := by decide +kernel
theorem dX3_checkDelay_21 : decode cX3_checkDelay 21 = .ok (.invokespecial 36, 3) := by decide +kernel
theorem dX3_checkDelay_24 : decode cX3_checkDelay 24 = .ok (.athrow, 1) := by decide +kernel
theorem dX3_checkDelay_25 : decode cX3_checkDelay 25 = .ok (.return_, 1) := by decide +kernel
theorem dX3_checkTime_0 : decode cX3_checkTime 0 = .ok (.iload_n 1, 1) := by decide +kernel
theorem dX3_checkTime_1 : decode cX3_checkTime 1 = .ok (.ifCond .lt 10, 3) := by decide +kernel
theorem dX3_checkTime_4 : decode cX3_checkTime 4 = .ok (.iload_n 1, 1) := by decide +kernel
theorem dX3_checkTime_5 : decode cX3_checkTime 5 = .ok (.sipush 999, 3) := by decide +kernel
theorem dX3_checkTime_8 : decode cX3_checkTime 8 = .ok (.if_icmp .le 13, 3) := by decide +kernel
theorem dX3_checkTime_11 : decode cX3_checkTime 11 = .ok (.new 32, 3) := by decide +kernel
theorem dX3_checkTime_14 : decode cX3_checkTime 14 = .ok (.dup, 1) := by decide +kernel
theorem dX3_checkTime_15 : decode cX3_checkTime 15 = .ok (.ldc 229, 2) := by decide +kernel
theorem dX3_checkTime_17 : decode cX3_checkTime 17 = .ok (.invokespecial 36, 3) := by decide +kernel
theorem dX3_checkTime_20 : decode cX3_checkTime 20 = .ok (.athrow, 1) := by decide +kernel
theorem dX3_checkTime_21 : decode cX3_checkTime 21 = .ok (.return_, 1) := by decide +kernel
set_option maxRecDepth 20000 in
theorem ggX3_allWords_Jx4a65c_size_8abf5 : GoodIn wsX3_allWords wsJx4a65c_size_8abf5 := goodIn_r _ [8, 9, 35, 36, 37] (by decide +kernel) (by decide +kernel)
set_option maxRecDepth 20000 in
theorem gX3_allWords_Jx4a65c_size_8abf5 : GoodIn wsX3_allWords (wsV RX3 56 RJx4a65c yJx4a65c_size_8abf5 wsJx4a65c_size_8abf5) := goodIn_app (goodIn_of _ (by decide +kernel)) ggX3_allWords_Jx4a65c_size_8abf5
set_option maxRecDepth 20000 in
theorem ggX3_allWords_Jx4a65c_get_915e3 : GoodIn wsX3_allWords wsJx4a65c_get_915e3 := goodIn_r _ [13, 9, 14, 15, 16, 17, 18, 19, 20, 21, 22, 23, 24, 7, 25, 26, 35, 36, 37] (by decide +kernel) (by decide +kernel)
set_option maxRecDepth 20000 in
theorem gX3_allWords_Jx4a65c_get_915e3 : GoodIn wsX3_allWords (wsV RX3 219 RJx4a65c yJx4a65c_get_915e3 wsJx4a65c_get_915e3) := goodIn_app (goodIn_of _ (by decide +kernel)) ggX3_allWords_Jx4a65c_get_915e3
theorem dX3_allWords_0 : decode cX3_allWords 0 = .ok (.iconst 0, 1) := by decide +kernel
theorem dX3_allWords_1 : decode cX3_allWords 1 = .ok (.istore_n 1, 1) := by decide +kernel
theorem dX3_allWords_2 : decode cX3_allWords 2 = .ok (.iconst 0, 1) := by decide +kernel
theorem dX3_allWords_3 : decode cX3_allWords 3 = .ok (.istore_n 2, 1) := by decide +kernel
theorem dX3_allWords_4 : decode cX3_allWords 4 = .ok (.iload_n 2, 1) := by decide +kernel
theorem dX3_allWords_5 : decode cX3_allWords 5 = .ok (.aload_n 0, 1) := by decide +kernel
theorem dX3_allWords_6 : decode cX3_allWords 6 = .ok (.getfield 28, 3) := by decide +kernel
theorem dX3_allWords_9 : decode cX3_allWords 9 = .ok (.invokevirtual 56, 3) := by decide +kernel
theorem dX3_allWords_12 : decode cX3_allWords 12 = .ok (.if_icmp .ge 26, 3) := by decide +kernel
theorem dX3_allWords_15 : decode cX3_allWords 15 = .ok (.iload_n 1, 1) := by decide +kernel
theorem dX3_allWords_16 : decode cX3_allWords 16 = .ok (.aload_n 0, 1) := by decide +kernel
theorem dX3_allWords_17 : decode cX3_allWords 17 = .ok (.getfield 28, 3) := by decide +kernel
theorem dX3_allWords_20 : decode cX3_allWords 20 = .ok (.iload_n 2, 1) := by decide +kernel
theorem dX3_allWords_21 : decode cX3_allWords 21 = .ok (.invokevirtual 219, 3) := by decide +kernel
theorem dX3_allWords_24 : decode cX3_allWords 24 = .ok (.checkcast 65, 3) := by decide +kernel
theorem dX3_allWords_27 : decode cX3_allWords 27 = .ok (.getfield 86, 3) := by decide +kernel
theorem dX3_allWords_30 : decode cX3_allWords 30 = .ok (.iadd, 1) := by decide +kernel
theorem dX3_allWords_31 : decode cX3_allWords 31 = .ok (.istore_n 1, 1) := by decide +kernel
