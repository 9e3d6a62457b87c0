theorem dJ8_hugeLength_7cf53_5 : decode cJ8_hugeLength_7cf53 5 = .ok (.ifCond .ge 44, 3) := by decide +kernel
theorem dJ8_hugeLength_7cf53_8 : decode cJ8_hugeLength_7cf53 8 = .ok (.new 204, 3) := by decide +kernel
theorem dJ8_hugeLength_7cf53_11 : decode cJ8_hugeLength_7cf53 11 = .ok (.dup, 1) := by decide +kernel
theorem dJ8_hugeLength_7cf53_12 : decode cJ8_hugeLength_7cf53 12 = .ok (.new 89, 3) := by decide +kernel
theorem dJ8_hugeLength_7cf53_15 : decode cJ8_hugeLength_7cf53 15 = .ok (.dup, 1) := by decide +kernel
theorem dJ8_hugeLength_7cf53_16 : decode cJ8_hugeLength_7cf53 16 = .ok (.invokespecial 91, 3) := by decide +kernel
theorem dJ8_hugeLength_7cf53_19 : decode cJ8_hugeLength_7cf53 19 = .ok (.ldc 206, 2) := by decide +kernel
theorem dJ8_hugeLength_7cf53_21 : decode cJ8_hugeLength_7cf53 21 = .ok (.invokevirtual 94, 3) := by decide +kernel
theorem dJ8_hugeLength_7cf53_24 : decode cJ8_hugeLength_7cf53 24 = .ok (.iload_n 0, 1) := by decide +kernel
theorem dJ8_hugeLength_7cf53_25 : decode cJ8_hugeLength_7cf53 25 = .ok (.invokevirtual 98, 3) := by decide +kernel
theorem dJ8_hugeLength_7cf53_28 : decode cJ8_hugeLength_7cf53 28 = .ok (.ldc 208, 2) := by decide +kernel
theorem dJ8_hugeLength_7cf53_30 : decode cJ8_hugeLength_7cf53 30 = .ok (.invokevirtual 94, 3) := by decide +kernel
theorem dJ8_hugeLength_7cf53_33 : decode cJ8_hugeLength_7cf53 33 = .ok (.iload_n 1, 1) := by decide +kernel
theorem dJ8_hugeLength_7cf53_34 : decode cJ8_hugeLength_7cf53 34 = .ok (.invokevirtual 98, 3) := by decide +kernel
theorem dJ8_hugeLength_7cf53_37 : decode cJ8_hugeLength_7cf53 37 = .ok (.ldc 210, 2) := by decide +kernel
theorem dJ8_hugeLength_7cf53_39 : decode cJ8_hugeLength_7cf53 39 = .ok (.invokevirtual 94, 3) := by decide +kernel
theorem dJ8_hugeLength_7cf53_42 : decode cJ8_hugeLength_7cf53 42 = .ok (.invokevirtual 101, 3) := by decide +kernel
theorem dJ8_hugeLength_7cf53_45 : decode cJ8_hugeLength_7cf53 45 = .ok (.invokespecial 212, 3) := by decide +kernel
theorem dJ8_hugeLength_7cf53_48 : decode cJ8_hugeLength_7cf53 48 = .ok (.athrow, 1) := by decide +kernel
theorem dJ8_hugeLength_7cf53_49 : decode cJ8_hugeLength_7cf53 49 = .ok (.iload_n 2, 1) := by decide +kernel
theorem dJ8_hugeLength_7cf53_50 : decode cJ8_hugeLength_7cf53 50 = .ok (.ldc 200, 2) := by decide +kernel
theorem dJ8_hugeLength_7cf53_52 : decode cJ8_hugeLength_7cf53 52 = .ok (.if_icmp .gt 6, 3) := by decide +kernel
theorem dJ8_hugeLength_7cf53_55 : decode cJ8_hugeLength_7cf53 55 = .ok (.ldc 200, 2) := by decide +kernel
theorem dJ8_hugeLength_7cf53_57 : decode cJ8_hugeLength_7cf53 57 = .ok (.ireturn, 1) := by decide +kernel
theorem dJ8_hugeLength_7cf53_58 : decode cJ8_hugeLength_7cf53 58 = .ok (.iload_n 2, 1) := by decide +kernel
theorem dJ8_hugeLength_7cf53_59 : decode cJ8_hugeLength_7cf53 59 = .ok (.ireturn, 1) := by decide +kernel
theorem dJ3_checkIndex_8e157_0 : decode cJ3_checkIndex_8e157 0 = .ok (.iload_n 0, 1) := by decide +kernel
theorem dJ3_checkIndex_8e157_1 : decode cJ3_checkIndex_8e157 1 = .ok (.ifCond .lt 8, 3) := by decide +kernel
theorem dJ3_checkIndex_8e157_4 : decode cJ3_checkIndex_8e157 4 = .ok (.iload_n 0, 1) := by decide +kernel
theorem dJ3_checkIndex_8e157_5 : decode cJ3_checkIndex_8e157 5 = .ok (.iload_n 1, 1) := by decide +kernel
theorem dJ3_checkIndex_8e157_6 : decode cJ3_checkIndex_8e157 6 = .ok (.if_icmp .lt 10, 3) := by decide +kernel
theorem dJ3_checkIndex_8e157_9 : decode cJ3_checkIndex_8e157 9 = .ok (.aload_n 2, 1) := by decide +kernel
theorem dJ3_checkIndex_8e157_10 : decode cJ3_checkIndex_8e157 10 = .ok (.iload_n 0, 1) := by decide +kernel
theorem dJ3_checkIndex_8e157_11 : decode cJ3_checkIndex_8e157 11 = .ok (.iload_n 1, 1) := by decide +kernel
theorem dJ3_checkIndex_8e157_12 : decode cJ3_checkIndex_8e157 12 = .ok (.invokestatic 95, 3) := by decide +kernel
theorem dJ3_checkIndex_8e157_15 : decode cJ3_checkIndex_8e157 15 = .ok (.athrow, 1) := by decide +kernel
theorem dJ3_checkIndex_8e157_16 : decode cJ3_checkIndex_8e157 16 = .ok (.iload_n 0, 1) := by decide +kernel
theorem dJ3_checkIndex_8e157_17 : decode cJ3_checkIndex_8e157 17 = .ok (.ireturn, 1) := by decide +kernel
set_option maxRecDepth 20000 in
theorem ggL_setCodes_X3_setCodes : GoodIn wsL_setCodes wsX3_setCodes := goodIn_ca (goodIn_r _ [6, 7, 8, 9, 10, 11, 12, 13, 14, 15, 16, 17, 18, 19, 20, 21, 22, 23, 24, 25, 26, 27, 28, 29, 30, 31, 32, 33, 34, 35, 36, 37, 38, 39, 40, 41] (by decide +kernel) (by decide +kernel)) (goodIn_sub (fun _ h => List.mem_cons_of_mem _ (List.mem_append_right _ h)) (by decide +kernel))
set_option maxRecDepth 20000 in
theorem gL_setCodes_X3_setCodes : GoodIn wsL_setCodes (wsV RL 7 RX3 yX3_setCodes wsX3_setCodes) := goodIn_app (goodIn_of _ (by decide +kernel)) ggL_setCodes_X3_setCodes
theorem dL_setCodes_0 : decode cL_setCodes 0 = .ok (.aload_n 2, 1) := by decide +kernel
theorem dL_setCodes_1 : decode cL_setCodes 1 = .ok (.iconst 0, 1) := by decide +kernel
theorem dL_setCodes_2 : decode cL_setCodes 2 = .ok (.aload_n 0, 1) := by decide +kernel
theorem dL_setCodes_3 : decode cL_setCodes 3 = .ok (.iload_n 1, 1) := by decide +kernel
theorem dL_setCodes_4 : decode cL_setCodes 4 = .ok (.invokevirtual 7, 3) := by decide +kernel
theorem dL_setCodes_7 : decode cL_setCodes 7 = .ok (.i2l, 1) := by decide +kernel
theorem dL_setCodes_8 : decode cL_setCodes 8 = .ok (.lastore, 1) := by decide +kernel
theorem dL_setCodes_9 : decode cL_setCodes 9 = .ok (.goto 6, 3) := by decide +kernel
theorem dL_setCodes_12 : decode cL_setCodes 12 = .ok (.astore_n 3, 1) := by decide +kernel
theorem dL_setCodes_13 : decode cL_setCodes 13 = .ok (.iconst 1, 1) := by decide +kernel
theorem dL_setCodes_14 : decode cL_setCodes 14 = .ok (.ireturn, 1) := by decide +kernel
theorem dL_setCodes_15 : decode cL_setCodes 15 = .ok (.iconst 0, 1) := by decide +kernel
theorem dL_setCodes_16 : decode cL_setCodes 16 = .ok (.ireturn, 1) := by decide +kernel
set_option maxRecDepth 20000 in
theorem ggL_hill_X3_hill : GoodIn wsL_hill wsX3_hill := goodIn_ca (goodIn_ca (goodIn_ca (goodIn_r _ [8, 9, 10, 11, 12, 13, 14, 15, 16, 17, 7, 18, 19, 20, 21, 22, 23, 24, 25, 26, 27, 28, 29, 30, 31, 32, 33, 34, 35, 36, 37, 38, 39, 40, 41, 42, 43, 44, 45, 46, 47, 48, 49, 50, 51, 52, 53, 54, 55, 56, 57, 58, 59, 60, 61, 62, 63, 64, 65, 66, 67, 68, 69, 70, 71, 72, 73, 74, 75, 76, 77, 78, 79, 80, 81, 82, 83, 84, 85, 86, 87, 88, 89, 90, 91, 92, 93, 94, 95, 96, 97, 98, 99, 100, 101, 102, 103, 104, 105, 106, 107, 108, 109, 110, 111, 112, 113, 114, 115, 116, 117] (by decide +kernel) (by decide +kernel)) (goodIn_sub (fun _ h => List.mem_cons_of_mem _ (List.mem_append_left _ (List.mem_append_left _ (List.mem_append_right _ h)))) (by decide +kernel))) (goodIn_sub (fun _ h => List.mem_cons_of_mem _ (List.mem_append_left _ (List.mem_append_right _ h))) (by decide +kernel))) (goodIn_sub (fun _ h => List.mem_cons_of_mem _ (List.mem_append_right _ h)) (by decide +kernel))
set_option maxRecDepth 20000 in
theorem gL_hill_X3_hill : GoodIn wsL_hill (wsV RL 15 RX3 yX3_hill wsX3_hill) := goodIn_app (goodIn_of _ (by decide +kernel)) ggL_hill_X3_hill
theorem dL_hill_0 : decode cL_hill 0 = .ok (.aload_n 3, 1) := by decide +kernel
theorem dL_hill_1 : decode cL_hill 1 = .ok (.iconst 0, 1) := by decide +kernel
theorem dL_hill_2 : decode cL_hill 2 = .ok (.aload_n 0, 1) := by decide +kernel
theorem dL_hill_3 : decode cL_hill 3 = .ok (.iload_n 1, 1) := by decide +kernel
theorem dL_hill_4 : decode cL_hill 4 = .ok (.iload_n 2, 1) := by decide +kernel
theorem dL_hill_5 : decode cL_hill 5 = .ok (.invokevirtual 15, 3) := by decide +kernel
theorem dL_hill_8 : decode cL_hill 8 = .ok (.i2l, 1) := by decide +kernel
theorem dL_hill_9 : decode cL_hill 9 = .ok (.lastore, 1) := by decide +kernel
theorem dL_hill_10 : decode cL_hill 10 = .ok (.goto 15, 3) := by decide +kernel
theorem dL_hill_13 : decode cL_hill 13 = .ok (.astore 4, 2) := by decide +kernel
theorem dL_hill_15 : decode cL_hill 15 = .ok (.iconst 1, 1) := by decide +kernel
theorem dL_hill_16 : decode cL_hill 16 = .ok (.ireturn, 1) := by decide +kernel
theorem dL_hill_17 : decode cL_hill 17 = .ok (.astore 4, 2) := by decide +kernel
theorem dL_hill_19 : decode cL_hill 19 = .ok (.iconst 2, 1) := by decide +kernel
theorem dL_hill_20 : decode cL_hill 20 = .ok (.ireturn, 1) := by decide +kernel
theorem dL_hill_21 : decode cL_hill 21 = .ok (.astore 4, 2) := by decide +kernel
theorem dL_hill_23 : decode cL_hill 23 = .ok (.iconst 3, 1) := by decide +kernel
theorem dL_hill_24 : decode cL_hill 24 = .ok (.ireturn, 1) := by decide +kernel
theorem dL_hill_25 : decode cL_hill 25 = .ok (.iconst 0, 1) := by decide +kernel
theorem dL_hill_26 : decode cL_hill 26 = .ok (.ireturn, 1) := by decide +kernel
set_option maxRecDepth 20000 in
theorem ggL_say_X3_say : GoodIn wsL_say wsX3_say := goodIn_ca (goodIn_ca (goodIn_r _ [7, 8, 9, 10, 11, 12, 13, 14, 15, 6, 16, 17, 18, 19, 20, 21, 22, 23, 24, 25, 26, 27, 28, 29, 30, 31, 32, 33, 34, 35, 36, 37, 38, 39, 40, 41, 42, 43, 44, 45, 46, 47, 48, 49, 50, 51, 52, 53, 54, 55, 56, 57, 58, 59, 60, 61, 62, 63, 64, 65, 66, 67, 68, 69, 70, 71, 72, 73, 74, 75, 76, 77, 78, 79, 80, 81, 82, 83, 84, 85, 86, 87, 88, 89, 90, 91, 92, 93, 94, 95, 96, 97, 98, 99, 100] (by decide +kernel) (by decide +kernel)) (goodIn_sub (fun _ h => List.mem_cons_of_mem _ (List.mem_append_left _ (List.mem_append_right _ h))) (by decide +kernel))) (goodIn_sub (fun _ h => List.mem_cons_of_mem _ (List.mem_append_right _ h)) (by decide +kernel))
set_option maxRecDepth 20000 in
theorem gL_say_X3_say : GoodIn wsL_say (wsV RL 23 RX3 yX3_say wsX3_say) := goodIn_app (goodIn_of _ (by decide +kernel)) ggL_say_X3_say
theorem dL_say_0 : decode cL_say 0 = .ok (.aload_n 3, 1) := by decide +kernel
theorem dL_say_1 : decode cL_say 1 = .ok (.iconst 0, 1) := by decide +kernel
theorem dL_say_2 : decode cL_say 2 = .ok (.aload_n 0, 1) := by decide +kernel
theorem dL_say_3 : decode cL_say 3 = .ok (.iload_n 1, 1) := by decide +kernel
theorem dL_say_4 : decode cL_say 4 = .ok (.iload_n 2, 1) := by decide +kernel
theorem dL_say_5 : decode cL_say 5 = .ok (.invokevirtual 23, 3) := by decide +kernel
theorem dL_say_8 : decode cL_say 8 = .ok (.i2l, 1) := by decide +kernel
theorem dL_say_9 : decode cL_say 9 = .ok (.lastore, 1) := by decide +kernel
theorem dL_say_10 : decode cL_say 10 = .ok (.goto 11, 3) := by decide +kernel
theorem dL_say_13 : decode cL_say 13 = .ok (.astore 4, 2) := by decide +kernel
theorem dL_say_15 : decode cL_say 15 = .ok (.iconst 1, 1) := by decide +kernel
theorem dL_say_16 : decode cL_say 16 = .ok (.ireturn, 1) := by decide +kernel
theorem dL_say_17 : decode cL_say 17 = .ok (.astore 4, 2) := by decide +kernel
theorem dL_say_19 : decode cL_say 19 = .ok (.iconst 2, 1) := by decide +kernel
theorem dL_say_20 : decode cL_say 20 = .ok (.ireturn, 1) := by decide +kernel
theorem dL_say_21 : decode cL_say 21 = .ok (.iconst 0, 1) := by decide +kernel
theorem dL_say_22 : decode cL_say 22 = .ok (.ireturn, 1) := by decide +kernel
set_option maxRecDepth 20000 in
theorem ggL_hush_X3_hush : GoodIn wsL_hush wsX3_hush := goodIn_ca (goodIn_r _ [6, 7, 8, 9, 10, 11, 12, 5, 13, 14, 15, 16, 17, 18, 19, 20, 21, 22, 23, 24, 25, 26, 27, 28, 29, 30, 31, 32, 33, 34, 35, 36, 37, 38, 39, 40, 41, 42, 43, 44, 45, 46, 47, 48, 49, 50, 51, 52, 53, 54, 55, 56, 57, 58, 59, 60, 61, 62, 63, 64, 65, 66, 67, 68, 69, 70, 71, 72, 73, 74, 75, 76, 77, 78, 79, 80, 81, 82, 83, 84, 85, 86, 87, 88, 89, 90, 91, 92] (by decide +kernel) (by decide +kernel)) (goodIn_sub (fun _ h => List.mem_cons_of_mem _ (List.mem_append_right _ h)) (by decide +kernel))
set_option maxRecDepth 20000 in
theorem gL_hush_X3_hush : GoodIn wsL_hush (wsV RL 27 RX3 yX3_hush wsX3_hush) := goodIn_app (goodIn_of _ (by decide +kernel)) ggL_hush_X3_hush
theorem dL_hush_0 : decode cL_hush 0 = .ok (.aload_n 2, 1) := by decide +kernel
theorem dL_hush_1 : decode cL_hush 1 = .ok (.iconst 0, 1) := by decide +kernel
theorem dL_hush_2 : decode cL_hush 2 = .ok (.aload_n 0, 1) := by decide +kernel
theorem dL_hush_3 : decode cL_hush 3 = .ok (.iload_n 1, 1) := by decide +kernel
theorem dL_hush_4 : decode cL_hush 4 = .ok (.invokevirtual 27, 3) := by decide +kernel
theorem dL_hush_7 : decode cL_hush 7 = .ok (.i2l, 1) := by decide +kernel
theorem dL_hush_8 : decode cL_hush 8 = .ok (.lastore, 1) := by decide +kernel
theorem dL_hush_9 : decode cL_hush 9 = .ok (.goto 6, 3) := by decide +kernel
theorem dL_hush_12 : decode cL_hush 12 = .ok (.astore_n 3, 1) := by decide +kernel
theorem dL_hush_13 : decode cL_hush 13 = .ok (.iconst 1, 1) := by decide +kernel
theorem dL_hush_14 : decode cL_hush 14 = .ok (.ireturn, 1) := by decide +kernel
theorem dL_hush_15 : decode cL_hush 15 = .ok (.iconst 0, 1) := by decide +kernel
theorem dL_hush_16 : decode cL_hush 16 = .ok (.ireturn, 1) := by decide +kernel
set_option maxRecDepth 20000 in
theorem ggL_setDelay_X3_setDelay : GoodIn wsL_setDelay wsX3_setDelay := goodIn_ca (goodIn_ca (goodIn_r _ [7, 8, 9, 10, 11, 12, 13, 6, 14, 15, 16, 17, 18, 19, 20, 21, 22, 23, 24, 25, 26, 27, 28, 29, 30, 31, 32, 33, 34, 35, 36, 37, 38, 39, 40, 41, 42, 43, 44, 45, 46, 47, 48, 49, 50, 51, 52, 53, 54, 55, 56, 57, 58, 59, 60, 61, 62, 63, 64, 65, 66, 67, 68, 69, 70, 71, 72, 73, 74, 75, 76, 77, 78, 79, 80, 81, 82, 83, 84, 85, 86, 87, 88, 89, 90, 91, 92, 93, 94, 95, 96, 97, 98, 99, 100, 101] (by decide +kernel) (by decide +kernel)) (goodIn_sub (fun _ h => List.mem_cons_of_mem _ (List.mem_append_left _ (List.mem_append_right _ h))) (by decide +kernel))) (goodIn_sub (fun _ h => List.mem_cons_of_mem _ (List.mem_append_right _ h)) (by decide +kernel))
set_option maxRecDepth 20000 in
theorem gL_setDelay_X3_setDelay : GoodIn wsL_setDelay (wsV RL 30 RX3 yX3_setDelay wsX3_setDelay) := goodIn_app (goodIn_of _ (by decide +kernel)) ggL_setDelay_X3_setDelay
theorem dL_setDelay_0 : decode cL_setDelay 0 = .ok (.aload_n 3, 1) := by decide +kernel
theorem dL_setDelay_1 : decode cL_setDelay 1 = .ok (.iconst 0, 1) := by decide +kernel
theorem dL_setDelay_2 : decode cL_setDelay 2 = .ok (.aload_n 0, 1) := by decide +kernel
theorem dL_setDelay_3 : decode cL_setDelay 3 = .ok (.iload_n 1, 1) := by decide +kernel
theorem dL_setDelay_4 : decode cL_setDelay 4 = .ok (.iload_n 2, 1) := by decide +kernel
theorem dL_setDelay_5 : decode cL_setDelay 5 = .ok (.invokevirtual 30, 3) := by decide +kernel
theorem dL_setDelay_8 : decode cL_setDelay 8 = .ok (.i2l, 1) := by decide +kernel
theorem dL_setDelay_9 : decode cL_setDelay 9 = .ok (.lastore, 1) := by decide +kernel
theorem dL_setDelay_10 : decode cL_setDelay 10 = .ok (.goto 11, 3) := by decide +kernel
theorem dL_setDelay_13 : decode cL_setDelay 13 = .ok (.astore 4, 2) := by decide +kernel
theorem dL_setDelay_15 : decode cL_setDelay 15 = .ok (.iconst 1, 1) := by decide +kernel
theorem dL_setDelay_16 : decode cL_setDelay 16 = .ok (.ireturn, 1) := by decide +kernel
theorem dL_setDelay_17 : decode cL_setDelay 17 = .ok (.astore 4, 2) := by decide +kernel
theorem dL_setDelay_19 : decode cL_setDelay 19 = .ok (.iconst 2, 1) := by decide +kernel
theorem dL_setDelay_20 : decode cL_setDelay 20 = .ok (.ireturn, 1) := by decide +kernel
theorem dL_setDelay_21 : decode cL_setDelay 21 = .ok (.iconst 0, 1) := by decide +kernel
theorem dL_setDelay_22 : decode cL_setDelay 22 = .ok (.ireturn, 1) := by decide +kernel
set_option maxRecDepth 20000 in
theorem ggL_setStrength_X3_setStrength : GoodIn wsL_setStrength wsX3_setStrength := goodIn_ca (goodIn_ca (goodIn_r _ [7, 8, 9, 10, 11, 12, 6, 13, 14, 15, 16, 17, 18, 19, 20, 21, 22, 23, 24, 25, 26, 27, 28, 29, 30, 31, 32, 33, 34, 35, 36, 37, 38, 39, 40, 41, 42, 43, 44, 45, 46, 47, 48, 49, 50, 51, 52, 53, 54, 55, 56, 57, 58, 59, 60, 61, 62, 63, 64, 65, 66, 67, 68, 69, 70, 71, 72, 73, 74, 75, 76, 77, 78, 79, 80, 81, 82, 83, 84, 85, 86, 87, 88, 89, 90, 91, 92, 93, 94, 95, 96, 97, 98] (by decide +kernel) (by decide +kernel)) (goodIn_sub (fun _ h => List.mem_cons_of_mem _ (List.mem_append_left _ (List.mem_append_right _ h))) (by decide +kernel))) (goodIn_sub (fun _ h => List.mem_cons_of_mem _ (List.mem_append_right _ h)) (by decide +kernel))
set_option maxRecDepth 20000 in
theorem gL_setStrength_X3_setStrength : GoodIn wsL_setStrength (wsV RL 33 RX3 yX3_setStrength wsX3_setStrength) := goodIn_app (goodIn_of _ (by decide +kernel)) ggL_setStrength_X3_setStrength
theorem dL_setStrength_0 : decode cL_setStrength 0 = .ok (.aload_n 3, 1) := by decide +kernel
theorem dL_setStrength_1 : decode cL_setStrength 1 = .ok (.iconst 0, 1) := by decide +kernel
theorem dL_setStrength_2 : decode cL_setStrength 2 = .ok (.aload_n 0, 1) := by decide +kernel
theorem dL_setStrength_3 : decode cL_setStrength 3 = .ok (.iload_n 1, 1) := by decide +kernel
theorem dL_setStrength_4 : decode cL_setStrength 4 = .ok (.iload_n 2, 1) := by decide +kernel
theorem dL_setStrength_5 : decode cL_setStrength 5 = .ok (.invokevirtual 33, 3) := by decide +kernel
theorem dL_setStrength_8 : decode cL_setStrength 8 = .ok (.i2l, 1) := by decide +kernel
theorem dL_setStrength_9 : decode cL_setStrength 9 = .ok (.lastore, 1) := by decide +kernel
theorem dL_setStrength_10 : decode cL_setStrength 10 = .ok (.goto 11, 3) := by decide +kernel
theorem dL_setStrength_13 : decode cL_setStrength 13 = .ok (.astore 4, 2) := by decide +kernel
theorem dL_setStrength_15 : decode cL_setStrength 15 = .ok (.iconst 1, 1) := by decide +kernel
theorem dL_setStrength_16 : decode cL_setStrength 16 = .ok (.ireturn, 1) := by decide +kernel
theorem dL_setStrength_17 : decode cL_setStrength 17 = .ok (.astore 4, 2) := by decide +kernel
theorem dL_setStrength_19 : decode cL_setStrength 19 = .ok (.iconst 2, 1) := by decide +kernel
theorem dL_setStrength_20 : decode cL_setStrength 20 = .ok (.ireturn, 1) := by decide +kernel
theorem dL_setStrength_21 : decode cL_setStrength 21 = .ok (.iconst 0, 1) := by decide +kernel
theorem dL_setStrength_22 : decode cL_setStrength 22 = .ok (.ireturn, 1) := by decide +kernel
set_option maxRecDepth 20000 in
theorem ggL_setStorm_X3_setStorm : GoodIn wsL_setStorm wsX3_setStorm := goodIn_ca (goodIn_ca (goodIn_r _ [7, 8, 9, 10, 11, 12, 13, 14, 15, 16, 17, 18, 19] (by decide +kernel) (by decide +kernel)) (goodIn_sub (fun _ h => List.mem_cons_of_mem _ (List.mem_append_left _ (List.mem_append_right _ h))) (by decide +kernel))) (goodIn_sub (fun _ h => List.mem_cons_of_mem _ (List.mem_append_right _ h)) (by decide +kernel))
set_option maxRecDepth 20000 in
theorem gL_setStorm_X3_setStorm : GoodIn wsL_setStorm (wsV RL 36 RX3 yX3_setStorm wsX3_setStorm) := goodIn_app (goodIn_of _ (by decide +kernel)) ggL_setStorm_X3_setStorm
theorem dL_setStorm_0 : decode cL_setStorm 0 = .ok (.aload_n 3, 1) := by decide +kernel
theorem dL_setStorm_1 : decode cL_setStorm 1 = .ok (.iconst 0, 1) := by decide +kernel
theorem dL_setStorm_2 : decode cL_setStorm 2 = .ok (.aload_n 0, 1) := by decide +kernel
theorem dL_setStorm_3 : decode cL_setStorm 3 = .ok (.iload_n 1, 1) := by decide +kernel
theorem dL_setStorm_4 : decode cL_setStorm 4 = .ok (.iload_n 2, 1) := by decide +kernel
theorem dL_setStorm_5 : decode cL_setStorm 5 = .ok (.invokevirtual 36, 3) := by decide +kernel
theorem dL_setStorm_8 : decode cL_setStorm 8 = .ok (.i2l, 1) := by decide +kernel
theorem dL_setStorm_9 : decode cL_setStorm 9 = .ok (.lastore, 1) := by decide +kernel
theorem dL_setStorm_10 : decode cL_setStorm 10 = .ok (.goto 11, 3) := by decide +kernel
theorem dL_setStorm_13 : decode cL_setStorm 13 = .ok (.astore 4, 2) := by decide +kernel
theorem dL_setStorm_15 : decode cL_setStorm 15 = .ok (.iconst 1, 1) := by decide +kernel
theorem dL_setStorm_16 : decode cL_setStorm 16 = .ok (.ireturn, 1) := by decide +kernel
theorem dL_setStorm_17 : decode cL_setStorm 17 = .ok (.astore 4, 2) := by decide +kernel
theorem dL_setStorm_19 : decode cL_setStorm 19 = .ok (.iconst 2, 1) := by decide +kernel
theorem dL_setStorm_20 : decode cL_setStorm 20 = .ok (.ireturn, 1) := by decide +kernel
theorem dL_setStorm_21 : decode cL_setStorm 21 = .ok (.iconst 0, 1) := by decide +kernel
theorem dL_setStorm_22 : decode cL_setStorm 22 = .ok (.ireturn, 1) := by decide +kernel
set_option maxRecDepth 20000 in
theorem ggL_chip_X3_chip : GoodIn wsL_chip wsX3_chip := goodIn_ca (goodIn_r _ [6, 7, 8, 9, 10, 11, 12, 5, 13, 14, 15, 16, 17, 18, 19, 20, 21, 22, 23, 24, 25, 26, 27, 28, 29, 30, 31, 32, 33, 34] (by decide +kernel) (by decide +kernel)) (goodIn_sub (fun _ h => List.mem_cons_of_mem _ (List.mem_append_right _ h)) (by decide +kernel))
set_option maxRecDepth 20000 in
theorem gL_chip_X3_chip : GoodIn wsL_chip (wsV RL 39 RX3 yX3_chip wsX3_chip) := goodIn_app (goodIn_of _ (by decide +kernel)) ggL_chip_X3_chip
theorem dL_chip_0 : decode cL_chip 0 = .ok (.aload_n 3, 1) := by decide +kernel
theorem dL_chip_1 : decode cL_chip 1 = .ok (.iconst 0, 1) := by decide +kernel
theorem dL_chip_2 : decode cL_chip 2 = .ok (.aload_n 0, 1) := by decide +kernel
theorem dL_chip_3 : decode cL_chip 3 = .ok (.iload_n 1, 1) := by decide +kernel
theorem dL_chip_4 : decode cL_chip 4 = .ok (.iload_n 2, 1) := by decide +kernel
theorem dL_chip_5 : decode cL_chip 5 = .ok (.invokevirtual 39, 3) := by decide +kernel
theorem dL_chip_8 : decode cL_chip 8 = .ok (.i2l, 1) := by decide +kernel
theorem dL_chip_9 : decode cL_chip 9 = .ok (.lastore, 1) := by decide +kernel
theorem dL_chip_10 : decode cL_chip 10 = .ok (.goto 7, 3) := by decide +kernel
theorem dL_chip_13 : decode cL_chip 13 = .ok (.astore 4, 2) := by decide +kernel
theorem dL_chip_15 : decode cL_chip 15 = .ok (.iconst 1, 1) := by decide +kernel
theorem dL_chip_16 : decode cL_chip 16 = .ok (.ireturn, 1) := by decide +kernel
theorem dL_chip_17 : decode cL_chip 17 = .ok (.iconst 0, 1) := by decide +kernel
theorem dL_chip_18 : decode cL_chip 18 = .ok (.ireturn, 1) := by decide +kernel
set_option maxRecDepth 20000 in
theorem ggL_sky_X3_sky : GoodIn wsL_sky wsX3_sky := goodIn_ca (goodIn_r _ [6, 7, 8, 9, 10, 5, 11, 12, 13, 14, 15, 16, 17, 18, 19, 20, 21, 22, 23, 24, 25, 26] (by decide +kernel) (by decide +kernel)) (goodIn_sub (fun _ h => List.mem_cons_of_mem _ (List.mem_append_right _ h)) (by decide +kernel))
set_option maxRecDepth 20000 in
theorem gL_sky_X3_sky : GoodIn wsL_sky (wsV RL 42 RX3 yX3_sky wsX3_sky) := goodIn_app (goodIn_of _ (by decide +kernel)) ggL_sky_X3_sky
theorem dL_sky_0 : decode cL_sky 0 = .ok (.aload_n 2, 1) := by decide +kernel
theorem dL_sky_1 : decode cL_sky 1 = .ok (.iconst 0, 1) := by decide +kernel
theorem dL_sky_2 : decode cL_sky 2 = .ok (.aload_n 0, 1) := by decide +kernel
theorem dL_sky_3 : decode cL_sky 3 = .ok (.iload_n 1, 1) := by decide +kernel
theorem dL_sky_4 : decode cL_sky 4 = .ok (.invokevirtual 42, 3) := by decide +kernel
theorem dL_sky_7 : decode cL_sky 7 = .ok (.i2l, 1) := by decide +kernel
theorem dL_sky_8 : decode cL_sky 8 = .ok (.lastore, 1) := by decide +kernel
theorem dL_sky_9 : decode cL_sky 9 = .ok (.goto 6, 3) := by decide +kernel
theorem dL_sky_12 : decode cL_sky 12 = .ok (.astore_n 3, 1) := by decide +kernel
theorem dL_sky_13 : decode cL_sky 13 = .ok (.iconst 1, 1) := by decide +kernel
theorem dL_sky_14 : decode cL_sky 14 = .ok (.ireturn, 1) := by decide +kernel
theorem dL_sky_15 : decode cL_sky 15 = .ok (.iconst 0, 1) := by decide +kernel
theorem dL_sky_16 : decode cL_sky 16 = .ok (.ireturn, 1) := by decide +kernel
set_option maxRecDepth 20000 in
theorem ggL_hear_X3_hear : GoodIn wsL_hear wsX3_hear := goodIn_ca (goodIn_ca (goodIn_r _ [7, 8, 9, 10, 11, 6, 12, 13, 14, 15, 16, 17, 18, 19, 20, 21, 22, 23, 24, 25, 26, 27, 28, 29, 30, 31, 32, 33, 34, 35, 36, 37, 38, 39, 40, 41, 42, 43, 44, 45, 46, 47, 48, 49, 50, 51, 52, 53, 54, 55, 56, 57, 58] (by decide +kernel) (by decide +kernel)) (goodIn_sub (fun _ h => List.mem_cons_of_mem _ (List.mem_append_left _ (List.mem_append_right _ h))) (by decide +kernel))) (goodIn_sub (fun _ h => List.mem_cons_of_mem _ (List.mem_append_right _ h)) (by decide +kernel))
set_option maxRecDepth 20000 in
theorem gL_hear_X3_hear : GoodIn wsL_hear (wsV RL 45 RX3 yX3_hear wsX3_hear) := goodIn_app (goodIn_of _ (by decide +kernel)) ggL_hear_X3_hear
theorem dL_hear_0 : decode cL_hear 0 = .ok (.aload_n 3, 1) := by decide +kernel
theorem dL_hear_1 : decode cL_hear 1 = .ok (.iconst 0, 1) := by decide +kernel
theorem dL_hear_2 : decode cL_hear 2 = .ok (.aload_n 0, 1) := by decide +kernel
theorem dL_hear_3 : decode cL_hear 3 = .ok (.iload_n 1, 1) := by decide +kernel
theorem dL_hear_4 : decode cL_hear 4 = .ok (.iload_n 2, 1) := by decide +kernel
theorem dL_hear_5 : decode cL_hear 5 = .ok (.invokevirtual 45, 3) := by decide +kernel
theorem dL_hear_8 : decode cL_hear 8 = .ok (.i2l, 1) := by decide +kernel
theorem dL_hear_9 : decode cL_hear 9 = .ok (.lastore, 1) := by decide +kernel
theorem dL_hear_10 : decode cL_hear 10 = .ok (.goto 11, 3) := by decide +kernel
theorem dL_hear_13 : decode cL_hear 13 = .ok (.astore 4, 2) := by decide +kernel
theorem dL_hear_15 : decode cL_hear 15 = .ok (.iconst 1, 1) := by decide +kernel
theorem dL_hear_16 : decode cL_hear 16 = .ok (.ireturn, 1) := by decide +kernel
theorem dL_hear_17 : decode cL_hear 17 = .ok (.astore 4, 2) := by decide +kernel
theorem dL_hear_19 : decode cL_hear 19 = .ok (.iconst 2, 1) := by decide +kernel
theorem dL_hear_20 : decode cL_hear 20 = .ok (.ireturn, 1) := by decide +kernel
theorem dL_hear_21 : decode cL_hear 21 = .ok (.iconst 0, 1) := by decide +kernel
theorem dL_hear_22 : decode cL_hear 22 = .ok (.ireturn, 1) := by decide +kernel
set_option maxRecDepth 20000 in
theorem ggL_word_X3_word : GoodIn wsL_word wsX3_word := goodIn_ca (goodIn_r _ [6, 7, 8, 9, 10, 11, 12, 13, 5, 14, 15, 16, 17, 18, 19, 20, 21, 22, 23, 24, 25, 26, 27, 28, 29, 30, 31, 32, 33, 34, 35, 36, 37, 38, 39, 40, 41, 42, 43, 44, 45, 46, 47, 48, 49, 50, 51, 52, 53, 54, 55, 56, 57, 58, 59, 60, 61, 62, 63, 64, 65, 66, 67, 68, 69, 70, 71, 72, 73, 74, 75, 76, 77, 78, 79, 80, 81, 82, 83, 84, 85, 86, 87, 88, 89, 90, 91, 92, 93, 94, 95, 96, 97, 98, 99, 100] (by decide +kernel) (by decide +kernel)) (goodIn_sub (fun _ h => List.mem_cons_of_mem _ (List.mem_append_right _ h)) (by decide +kernel))
set_option maxRecDepth 20000 in
theorem gL_word_X3_word : GoodIn wsL_word (wsV RL 48 RX3 yX3_word wsX3_word) := goodIn_app (goodIn_of _ (by decide +kernel)) ggL_word_X3_word
theorem dL_word_0 : decode cL_word 0 = .ok (.aload 4, 2) := by decide +kernel
theorem dL_word_2 : decode cL_word 2 = .ok (.iconst 0, 1) := by decide +kernel
theorem dL_word_3 : decode cL_word 3 = .ok (.aload_n 0, 1) := by decide +kernel
theorem dL_word_4 : decode cL_word 4 = .ok (.iload_n 1, 1) := by decide +kernel
theorem dL_word_5 : decode cL_word 5 = .ok (.iload_n 2, 1) := by decide +kernel
theorem dL_word_6 : decode cL_word 6 = .ok (.iload_n 3, 1) := by decide +kernel
theorem dL_word_7 : decode cL_word 7 = .ok (.invokevirtual 48, 3) := by decide +kernel
theorem dL_word_10 : decode cL_word 10 = .ok (.i2l, 1) := by decide +kernel
theorem dL_word_11 : decode cL_word 11 = .ok (.lastore, 1) := by decide +kernel
theorem dL_word_12 : decode cL_word 12 = .ok (.goto 7, 3) := by decide +kernel
theorem dL_word_15 : decode cL_word 15 = .ok (.astore 5, 2) := by decide +kernel
theorem dL_word_17 : decode cL_word 17 = .ok (.iconst 1, 1) := by decide +kernel
theorem dL_word_18 : decode cL_word 18 = .ok (.ireturn, 1) := by decide +kernel
theorem dL_word_19 : decode cL_word 19 = .ok (.iconst 0, 1) := by decide +kernel
theorem dL_word_20 : decode cL_word 20 = .ok (.ireturn, 1) := by decide +kernel
set_option maxRecDepth 20000 in
theorem ggL_about_X3_about : GoodIn wsL_about wsX3_about := goodIn_ca (goodIn_r _ [6, 7, 8, 9, 10, 11, 12, 13, 14, 15, 16, 17, 18, 5, 19, 20, 21, 22, 23, 24, 25, 26, 27, 28, 29, 30, 31, 32, 33, 34, 35, 36, 37, 38, 39, 40, 41, 42, 43, 44, 45, 46, 47, 48, 49, 50, 51, 52, 53, 54, 55, 56, 57, 58, 59, 60, 61, 62, 63, 64, 65, 66, 67, 68, 69, 70, 71, 72, 73, 74, 75, 76, 77, 78, 79, 80, 81, 82, 83, 84, 85, 86, 87, 88, 89, 90, 91, 92, 93, 94, 95, 96, 97, 98, 99, 100, 101, 102, 103, 104, 105, 106, 107, 108, 109, 110, 111, 112, 113, 114, 115, 116, 117, 118, 119, 120, 121, 122, 123] (by decide +kernel) (by decide +kernel)) (goodIn_sub (fun _ h => List.mem_cons_of_mem _ (List.mem_append_right _ h)) (by decide +kernel))
set_option maxRecDepth 20000 in
theorem gL_about_X3_about : GoodIn wsL_about (wsV RL 52 RX3 yX3_about wsX3_about) := goodIn_app (goodIn_of _ (by decide +kernel)) ggL_about_X3_about
theorem dL_about_0 : decode cL_about 0 = .ok (.aload_n 3, 1) := by decide +kernel
theorem dL_about_1 : decode cL_about 1 = .ok (.iconst 0, 1) := by decide +kernel
theorem dL_about_2 : decode cL_about 2 = .ok (.aload_n 0, 1) := by decide +kernel
theorem dL_about_3 : decode cL_about 3 = .ok (.iload_n 1, 1) := by decide +kernel
theorem dL_about_4 : decode cL_about 4 = .ok (.iload_n 2, 1) := by decide +kernel
theorem dL_about_5 : decode cL_about 5 = .ok (.invokevirtual 52, 3) := by decide +kernel
theorem dL_about_8 : decode cL_about 8 = .ok (.i2l, 1) := by decide +kernel
theorem dL_about_9 : decode cL_about 9 = .ok (.lastore, 1) := by decide +kernel
theorem dL_about_10 : decode cL_about 10 = .ok (.goto 7, 3) := by decide +kernel
theorem dL_about_13 : decode cL_about 13 = .ok (.astore 4, 2) := by decide +kernel
theorem dL_about_15 : decode cL_about 15 = .ok (.iconst 1, 1) := by decide +kernel
theorem dL_about_16 : decode cL_about 16 = .ok (.ireturn, 1) := by decide +kernel
theorem dL_about_17 : decode cL_about 17 = .ok (.iconst 0, 1) := by decide +kernel
theorem dL_about_18 : decode cL_about 18 = .ok (.ireturn, 1) := by decide +kernel
set_option maxRecDepth 20000 in
theorem ggL_count_X3_count : GoodIn wsL_count wsX3_count := goodIn_ca (goodIn_r _ [6, 7, 8, 9, 10, 11, 12, 13, 14, 15, 16, 17, 18, 19, 20, 21, 5, 22, 23, 24, 25, 26, 27, 28, 29, 30, 31, 32, 33, 34, 35, 36, 37, 38, 39, 40, 41, 42, 43, 44, 45, 46, 47, 48, 49, 50, 51, 52, 53, 54, 55, 56, 57, 58, 59, 60, 61, 62, 63, 64, 65, 66, 67, 68, 69, 70, 71, 72, 73, 74, 75, 76, 77, 78, 79, 80, 81, 82, 83, 84, 85, 86, 87, 88, 89, 90, 91, 92, 93, 94, 95, 96, 97, 98, 99, 100, 101, 102, 103, 104, 105, 106, 107, 108, 109, 110, 111, 112, 113, 114, 115, 116, 117, 118, 119, 120, 121, 122, 123, 124, 125, 126, 127, 128, 129, 130, 131, 132, 133, 134, 135, 136, 137, 138, 139, 140, 141] (by decide +kernel) (by decide +kernel)) (goodIn_sub (fun _ h => List.mem_cons_of_mem _ (List.mem_append_right _ h)) (by decide +kernel))
set_option maxRecDepth 20000 in
theorem gL_count_X3_count : GoodIn wsL_count (wsV RL 55 RX3 yX3_count wsX3_count) := goodIn_app (goodIn_of _ (by decide +kernel)) ggL_count_X3_count
theorem dL_count_0 : decode cL_count 0 = .ok (.aload_n 2, 1) := by decide +kernel
theorem dL_count_1 : decode cL_count 1 = .ok (.iconst 0, 1) := by decide +kernel
theorem dL_count_2 : decode cL_count 2 = .ok (.aload_n 0, 1) := by decide +kernel
theorem dL_count_3 : decode cL_count 3 = .ok (.iload_n 1, 1) := by decide +kernel
theorem dL_count_4 : decode cL_count 4 = .ok (.invokevirtual 55, 3) := by decide +kernel
theorem dL_count_7 : decode cL_count 7 = .ok (.i2l, 1) := by decide +kernel
theorem dL_count_8 : decode cL_count 8 = .ok (.lastore, 1) := by decide +kernel
theorem dL_count_9 : decode cL_count 9 = .ok (.goto 6, 3) := by decide +kernel
theorem dL_count_12 : decode cL_count 12 = .ok (.astore_n 3, 1) := by decide +kernel
theorem dL_count_13 : decode cL_count 13 = .ok (.iconst 1, 1) := by decide +kernel
theorem dL_count_14 : decode cL_count 14 = .ok (.ireturn, 1) := by decide +kernel
theorem dL_count_15 : decode cL_count 15 = .ok (.iconst 0, 1) := by decide +kernel
theorem dL_count_16 : decode cL_count 16 = .ok (.ireturn, 1) := by decide +kernel
set_option maxRecDepth 20000 in
theorem ggL_alike_X3_alike : GoodIn wsL_alike wsX3_alike := goodIn_ca (goodIn_ca (goodIn_r _ [7, 8, 9, 10, 11, 12, 13, 6, 14, 15, 16, 17, 18, 19, 20, 21, 22, 23, 24, 25, 26, 27, 28, 29, 30, 31, 32, 33, 34, 35, 36, 37, 38, 39, 40, 41, 42, 43, 44, 45] (by decide +kernel) (by decide +kernel)) (goodIn_sub (fun _ h => List.mem_cons_of_mem _ (List.mem_append_left _ (List.mem_append_right _ h))) (by decide +kernel))) (goodIn_sub (fun _ h => List.mem_cons_of_mem _ (List.mem_append_right _ h)) (by decide +kernel))
set_option maxRecDepth 20000 in
theorem gL_alike_X3_alike : GoodIn wsL_alike (wsV RL 58 RX3 yX3_alike wsX3_alike) := goodIn_app (goodIn_of _ (by decide +kernel)) ggL_alike_X3_alike
theorem dL_alike_0 : decode cL_alike 0 = .ok (.aload 4, 2) := by decide +kernel
theorem dL_alike_2 : decode cL_alike 2 = .ok (.iconst 0, 1) := by decide +kernel
theorem dL_alike_3 : decode cL_alike 3 = .ok (.aload_n 0, 1) := by decide +kernel
theorem dL_alike_4 : decode cL_alike 4 = .ok (.iload_n 1, 1) := by decide +kernel
theorem dL_alike_5 : decode cL_alike 5 = .ok (.iload_n 2, 1) := by decide +kernel
theorem dL_alike_6 : decode cL_alike 6 = .ok (.iload_n 3, 1) := by decide +kernel
theorem dL_alike_7 : decode cL_alike 7 = .ok (.invokevirtual 58, 3) := by decide +kernel
theorem dL_alike_10 : decode cL_alike 10 = .ok (.i2l, 1) := by decide +kernel
theorem dL_alike_11 : decode cL_alike 11 = .ok (.lastore, 1) := by decide +kernel
theorem dL_alike_12 : decode cL_alike 12 = .ok (.goto 11, 3) := by decide +kernel
theorem dL_alike_15 : decode cL_alike 15 = .ok (.astore 5, 2) := by decide +kernel
theorem dL_alike_17 : decode cL_alike 17 = .ok (.iconst 1, 1) := by decide +kernel
theorem dL_alike_18 : decode cL_alike 18 = .ok (.ireturn, 1) := by decide +kernel
theorem dL_alike_19 : decode cL_alike 19 = .ok (.astore 5, 2) := by decide +kernel
theorem dL_alike_21 : decode cL_alike 21 = .ok (.iconst 2, 1) := by decide +kernel
theorem dL_alike_22 : decode cL_alike 22 = .ok (.ireturn, 1) := by decide +kernel
theorem dL_alike_23 : decode cL_alike 23 = .ok (.iconst 0, 1) := by decide +kernel
theorem dL_alike_24 : decode cL_alike 24 = .ok (.ireturn, 1) := by decide +kernel
set_option maxRecDepth 20000 in
theorem ggL_shift_X3_shift : GoodIn wsL_shift wsX3_shift := goodIn_ca (goodIn_r _ [6, 7, 8, 9, 10, 11, 5, 12, 13, 14, 15, 16, 17, 18, 19, 20, 21, 22, 23, 24, 25, 26, 27, 28, 29, 30, 31, 32, 33, 34, 35, 36, 37, 38, 39, 40, 41, 42, 43] (by decide +kernel) (by decide +kernel)) (goodIn_sub (fun _ h => List.mem_cons_of_mem _ (List.mem_append_right _ h)) (by decide +kernel))
set_option maxRecDepth 20000 in
theorem gL_shift_X3_shift : GoodIn wsL_shift (wsV RL 61 RX3 yX3_shift wsX3_shift) := goodIn_app (goodIn_of _ (by decide +kernel)) ggL_shift_X3_shift
theorem dL_shift_0 : decode cL_shift 0 = .ok (.aload_n 3, 1) := by decide +kernel
theorem dL_shift_1 : decode cL_shift 1 = .ok (.iconst 0, 1) := by decide +kernel
theorem dL_shift_2 : decode cL_shift 2 = .ok (.aload_n 0, 1) := by decide +kernel
theorem dL_shift_3 : decode cL_shift 3 = .ok (.iload_n 1, 1) := by decide +kernel
theorem dL_shift_4 : decode cL_shift 4 = .ok (.iload_n 2, 1) := by decide +kernel
theorem dL_shift_5 : decode cL_shift 5 = .ok (.invokevirtual 61, 3) := by decide +kernel
theorem dL_shift_8 : decode cL_shift 8 = .ok (.i2l, 1) := by decide +kernel
theorem dL_shift_9 : decode cL_shift 9 = .ok (.lastore, 1) := by decide +kernel
theorem dL_shift_10 : decode cL_shift 10 = .ok (.goto 7, 3) := by decide +kernel
theorem dL_shift_13 : decode cL_shift 13 = .ok (.astore 4, 2) := by decide +kernel
theorem dL_shift_15 : decode cL_shift 15 = .ok (.iconst 1, 1) := by decide +kernel
theorem dL_shift_16 : decode cL_shift 16 = .ok (.ireturn, 1) := by decide +kernel
theorem dL_shift_17 : decode cL_shift 17 = .ok (.iconst 0, 1) := by decide +kernel
theorem dL_shift_18 : decode cL_shift 18 = .ok (.ireturn, 1) := by decide +kernel
set_option maxRecDepth 20000 in
theorem ggL_advise_X3_advise : GoodIn wsL_advise wsX3_advise := goodIn_ca (goodIn_r _ [6, 7, 8, 9, 10, 11, 5, 12, 13, 14, 15, 16, 17, 18, 19, 20, 21, 22, 23, 24, 25, 26, 27, 28, 29, 30, 31, 32, 33, 34, 35, 36, 37, 38, 39, 40, 41, 42, 43, 44, 45, 46, 47, 48, 49, 50, 51, 52, 53, 54, 55, 56, 57, 58, 59, 60, 61, 62, 63, 64, 65, 66, 67, 68, 69, 70, 71, 72, 73, 74, 75, 76, 77, 78, 79, 80, 81, 82, 83] (by decide +kernel) (by decide +kernel)) (goodIn_sub (fun _ h => List.mem_cons_of_mem _ (List.mem_append_right _ h)) (by decide +kernel))
set_option maxRecDepth 20000 in
theorem gL_advise_X3_advise : GoodIn wsL_advise (wsV RL 64 RX3 yX3_advise wsX3_advise) := goodIn_app (goodIn_of _ (by decide +kernel)) ggL_advise_X3_advise
theorem dL_advise_0 : decode cL_advise 0 = .ok (.aload_n 2, 1) := by decide +kernel
theorem dL_advise_1 : decode cL_advise 1 = .ok (.iconst 0, 1) := by decide +kernel
theorem dL_advise_2 : decode cL_advise 2 = .ok (.aload_n 0, 1) := by decide +kernel
theorem dL_advise_3 : decode cL_advise 3 = .ok (.iload_n 1, 1) := by decide +kernel
theorem dL_advise_4 : decode cL_advise 4 = .ok (.invokevirtual 64, 3) := by decide +kernel
theorem dL_advise_7 : decode cL_advise 7 = .ok (.i2l, 1) := by decide +kernel
theorem dL_advise_8 : decode cL_advise 8 = .ok (.lastore, 1) := by decide +kernel
theorem dL_advise_9 : decode cL_advise 9 = .ok (.goto 6, 3) := by decide +kernel
theorem dL_advise_12 : decode cL_advise 12 = .ok (.astore_n 3, 1) := by decide +kernel
theorem dL_advise_13 : decode cL_advise 13 = .ok (.iconst 1, 1) := by decide +kernel
theorem dL_advise_14 : decode cL_advise 14 = .ok (.ireturn, 1) := by decide +kernel
theorem dL_advise_15 : decode cL_advise 15 = .ok (.iconst 0, 1) := by decide +kernel
theorem dL_advise_16 : decode cL_advise 16 = .ok (.ireturn, 1) := by decide +kernel
set_option maxRecDepth 20000 in
theorem ggL_would_X3_would : GoodIn wsL_would wsX3_would := goodIn_ca (goodIn_ca (goodIn_r _ [7, 8, 9, 10, 6, 11, 12, 13, 14, 15, 16, 17, 18, 19, 20, 21, 22, 23, 24, 25, 26, 27, 28, 29, 30, 31, 32, 33, 34, 35, 36, 37, 38, 39, 40, 41, 42, 43, 44, 45, 46, 47, 48, 49, 50, 51, 52, 53, 54, 55, 56, 57, 58, 59, 60, 61, 62, 63, 64, 65, 66, 67, 68, 69, 70, 71, 72, 73, 74, 75, 76, 77, 78, 79, 80, 81, 82, 83, 84, 85, 86, 87, 88, 89, 90, 91, 92, 93, 94, 95, 96, 97, 98, 99, 100, 101, 102, 103, 104, 105, 106, 107, 108, 109, 110, 111, 112, 113, 114, 115, 116, 117, 118, 119, 120, 121, 122, 123, 124, 125, 126, 127, 128] (by decide +kernel) (by decide +kernel)) (goodIn_sub (fun _ h => List.mem_cons_of_mem _ (List.mem_append_left _ (List.mem_append_right _ h))) (by decide +kernel))) (goodIn_sub (fun _ h => List.mem_cons_of_mem _ (List.mem_append_right _ h)) (by decide +kernel))
set_option maxRecDepth 20000 in
theorem gL_would_X3_would : GoodIn wsL_would (wsV RL 67 RX3 yX3_would wsX3_would) := goodIn_app (goodIn_of _ (by decide +kernel)) ggL_would_X3_would
theorem dL_would_0 : decode cL_would 0 = .ok (.aload_n 3, 1) := by decide +kernel
theorem dL_would_1 : decode cL_would 1 = .ok (.iconst 0, 1) := by decide +kernel
theorem dL_would_2 : decode cL_would 2 = .ok (.aload_n 0, 1) := by decide +kernel
theorem dL_would_3 : decode cL_would 3 = .ok (.iload_n 1, 1) := by decide +kernel
theorem dL_would_4 : decode cL_would 4 = .ok (.iload_n 2, 1) := by decide +kernel
theorem dL_would_5 : decode cL_would 5 = .ok (.invokevirtual 67, 3) := by decide +kernel
theorem dL_would_8 : decode cL_would 8 = .ok (.i2l, 1) := by decide +kernel
theorem dL_would_9 : decode cL_would 9 = .ok (.lastore, 1) := by decide +kernel
theorem dL_would_10 : decode cL_would 10 = .ok (.goto 11, 3) := by decide +kernel
theorem dL_would_13 : decode cL_would 13 = .ok (.astore 4, 2) := by decide +kernel
theorem dL_would_15 : decode cL_would 15 = .ok (.iconst 1, 1) := by decide +kernel
theorem dL_would_16 : decode cL_would 16 = .ok (.ireturn, 1) := by decide +kernel
theorem dL_would_17 : decode cL_would 17 = .ok (.astore 4, 2) := by decide +kernel
theorem dL_would_19 : decode cL_would 19 = .ok (.iconst 2, 1) := by decide +kernel
theorem dL_would_20 : decode cL_would 20 = .ok (.ireturn, 1) := by decide +kernel
theorem dL_would_21 : decode cL_would 21 = .ok (.iconst 0, 1) := by decide +kernel
theorem dL_would_22 : decode cL_would 22 = .ok (.ireturn, 1) := by decide +kernel
set_option maxRecDepth 20000 in
theorem ggL_tune_X3_tune : GoodIn wsL_tune wsX3_tune := goodIn_ca (goodIn_r _ [6, 7, 8, 9, 5, 10, 11, 12, 13, 14, 15, 16, 17, 18, 19, 20, 21, 22, 23, 24, 25, 26, 27, 28, 29, 30, 31, 32, 33, 34, 35, 36, 37, 38, 39, 40, 41, 42, 43, 44, 45, 46, 47, 48, 49, 50, 51, 52, 53, 54, 55, 56, 57, 58, 59, 60, 61, 62, 63, 64, 65, 66, 67, 68, 69, 70, 71, 72, 73, 74, 75, 76, 77, 78, 79, 80, 81, 82, 83, 84, 85, 86, 87, 88, 89, 90, 91, 92, 93, 94, 95, 96, 97, 98, 99, 100, 101, 102, 103, 104, 105, 106, 107, 108, 109, 110, 111, 112, 113, 114, 115, 116, 117, 118, 119, 120, 121] (by decide +kernel) (by decide +kernel)) (goodIn_sub (fun _ h => List.mem_cons_of_mem _ (List.mem_append_right _ h)) (by decide +kernel))
set_option maxRecDepth 20000 in
theorem gL_tune_X3_tune : GoodIn wsL_tune (wsV RL 70 RX3 yX3_tune wsX3_tune) := goodIn_app (goodIn_of _ (by decide +kernel)) ggL_tune_X3_tune
theorem dL_tune_0 : decode cL_tune 0 = .ok (.aload_n 2, 1) := by decide +kernel
theorem dL_tune_1 : decode cL_tune 1 = .ok (.iconst 0, 1) := by decide +kernel
theorem dL_tune_2 : decode cL_tune 2 = .ok (.aload_n 0, 1) := by decide +kernel
theorem dL_tune_3 : decode cL_tune 3 = .ok (.iload_n 1, 1) := by decide +kernel
theorem dL_tune_4 : decode cL_tune 4 = .ok (.invokevirtual 70, 3) := by decide +kernel
theorem dL_tune_7 : decode cL_tune 7 = .ok (.i2l, 1) := by decide +kernel
theorem dL_tune_8 : decode cL_tune 8 = .ok (.lastore, 1) := by decide +kernel
theorem dL_tune_9 : decode cL_tune 9 = .ok (.goto 6, 3) := by decide +kernel
theorem dL_tune_12 : decode cL_tune 12 = .ok (.astore_n 3, 1) := by decide +kernel
theorem dL_tune_13 : decode cL_tune 13 = .ok (.iconst 1, 1) := by decide +kernel
theorem dL_tune_14 : decode cL_tune 14 = .ok (.ireturn, 1) := by decide +kernel
theorem dL_tune_15 : decode cL_tune 15 = .ok (.iconst 0, 1) := by decide +kernel
theorem dL_tune_16 : decode cL_tune 16 = .ok (.ireturn, 1) := by decide +kernel
set_option maxRecDepth 20000 in
theorem ggL_law_X3_init : GoodIn wsL_law wsX3_init := goodIn_r _ [9, 10, 11, 12, 13, 14, 15, 16, 17, 18, 19, 20, 21, 22, 23, 24, 25, 26, 27, 28, 29, 30, 31, 32, 33, 34, 35, 36, 37, 38, 39, 40, 41, 42, 43, 44, 45, 46, 47, 48, 49, 50, 51, 673, 661, 662, 663, 674, 675, 676, 677, 678, 679] (by decide +kernel) (by decide +kernel)
set_option maxRecDepth 20000 in
theorem gL_law_X3_init : GoodIn wsL_law (wsX3_init) := ggL_law_X3_init
set_option maxRecDepth 20000 in
theorem ggL_law_X4_init : GoodIn wsL_law wsX4_init := goodIn_r _ [54, 55, 11, 12, 56, 33, 57, 58, 59, 60, 61, 62, 664, 665, 666, 667, 668, 669, 670, 671, 672] (by decide +kernel) (by decide +kernel)
set_option maxRecDepth 20000 in
theorem gL_law_X4_init : GoodIn wsL_law (wsX4_init) := ggL_law_X4_init
set_option maxRecDepth 20000 in
theorem ggL_law_L_setCodes : GoodIn wsL_law wsL_setCodes := goodIn_ca (goodIn_r _ [66, 67, 68, 69, 70, 2, 71, 72, 73, 16, 74, 24, 20, 75, 76, 77, 23, 78, 79, 80, 41, 81, 82, 83, 84, 19, 85, 35, 86, 87, 88, 89, 661, 662, 663, 673, 677, 678, 679, 674, 675, 676] (by decide +kernel) (by decide +kernel)) (goodIn_sub (fun _ h => List.mem_append_left _ (List.mem_append_left _ (List.mem_append_right _ h))) (by decide +kernel))
set_option maxRecDepth 20000 in
theorem gL_law_L_setCodes : GoodIn wsL_law (va_wsS RL 77 yL_setCodes wsL_setCodes) := goodIn_app (goodIn_of _ (by decide +kernel)) ggL_law_L_setCodes
set_option maxRecDepth 20000 in
theorem ggL_law_X4_setCodes : GoodIn wsL_law wsX4_setCodes := goodIn_r _ [93, 94, 56, 95, 96, 97, 5, 98, 99, 100, 101, 102, 664, 665, 666, 667, 668, 669, 670, 671, 672] (by decide +kernel) (by decide +kernel)
set_option maxRecDepth 20000 in
theorem gL_law_X4_setCodes : GoodIn wsL_law (wsV RL 82 RX4 yX4_setCodes wsX4_setCodes) := goodIn_app (goodIn_of _ (by decide +kernel)) ggL_law_X4_setCodes
set_option maxRecDepth 20000 in
theorem ggL_law_X4_thrown : GoodIn wsL_law wsX4_thrown := goodIn_r _ [106, 94, 664, 665, 666, 667, 668, 669, 670, 671, 672] (by decide +kernel) (by decide +kernel)
set_option maxRecDepth 20000 in
theorem gL_law_X4_thrown : GoodIn wsL_law (wsV RL 83 RX4 yX4_thrown wsX4_thrown) := goodIn_app (goodIn_of _ (by decide +kernel)) ggL_law_X4_thrown
set_option maxRecDepth 20000 in
theorem ggL_law_L_hill : GoodIn wsL_law wsL_hill := goodIn_ca (goodIn_ca (goodIn_ca (goodIn_r _ [109, 110, 67, 111, 112, 113, 114, 2, 115, 116, 117, 24, 118, 119, 120, 121, 122, 123, 124, 125, 126, 16, 127, 128, 129, 15, 130, 28, 131, 132, 133, 134, 72, 73, 135, 136, 137, 23, 138, 81, 139, 140, 141, 142, 11, 12, 143, 144, 33, 145, 146, 147, 148, 149, 150, 151, 79, 80, 41, 152, 153, 154, 155, 156, 157, 158, 159, 160, 161, 162, 163, 40, 164, 165, 166, 167, 168, 169, 170, 171, 172, 173, 174, 175, 176, 177, 178, 179, 88, 180, 181, 182, 183, 184, 185, 186, 187, 188, 189, 190, 191, 192, 193, 194, 195, 196, 661, 662, 663, 680, 681, 682, 683, 684, 673, 677, 678, 679] (by decide +kernel) (by decide +kernel)) (goodIn_sub (fun _ h => List.mem_append_left _ (List.mem_append_right _ h)) (by decide +kernel))) (goodIn_sub (fun _ h => List.mem_append_right _ h) (by decide +kernel))) (goodIn_sub (fun _ h => List.mem_append_left _ (List.mem_append_left _ (List.mem_append_right _ h))) (by decide +kernel))
set_option maxRecDepth 20000 in
theorem gL_law_L_hill : GoodIn wsL_law (va_wsS RL 87 yL_hill wsL_hill) := goodIn_app (goodIn_of _ (by decide +kernel)) ggL_law_L_hill
set_option maxRecDepth 20000 in
theorem ggL_law_X4_hill : GoodIn wsL_law wsX4_hill := goodIn_r _ [200, 94, 95, 57, 58, 59, 60, 201, 202, 203, 5, 204, 56, 96, 97, 98, 99, 100, 101, 102, 205, 206, 207, 664, 665, 666, 667, 668, 669, 670, 671, 672] (by decide +kernel) (by decide +kernel)
set_option maxRecDepth 20000 in
theorem gL_law_X4_hill : GoodIn wsL_law (wsV RL 90 RX4 yX4_hill wsX4_hill) := goodIn_app (goodIn_of _ (by decide +kernel)) ggL_law_X4_hill
set_option maxRecDepth 20000 in
theorem ggL_law_L_say : GoodIn wsL_law wsL_say := goodIn_ca (goodIn_ca (goodIn_r _ [210, 110, 111, 211, 212, 213, 2, 214, 116, 117, 20, 215, 216, 217, 218, 219, 220, 125, 126, 24, 221, 135, 136, 137, 23, 138, 81, 222, 223, 224, 225, 226, 227, 228, 229, 230, 231, 232, 233, 234, 235, 236, 237, 41, 238, 239, 240, 120, 241, 144, 145, 242, 243, 244, 245, 246, 247, 248, 249, 19, 250, 36, 251, 35, 252, 253, 254, 255, 256, 257, 258, 259, 260, 143, 261, 262, 263, 15, 264, 265, 266, 267, 268, 269, 270, 271, 661, 662, 663, 680, 681, 682, 683, 684, 677, 678, 679, 674, 675, 676, 673] (by decide +kernel) (by decide +kernel)) (goodIn_sub (fun _ h => List.mem_append_left _ (List.mem_append_right _ h)) (by decide +kernel))) (goodIn_sub (fun _ h => List.mem_append_right _ h) (by decide +kernel))
set_option maxRecDepth 20000 in
theorem gL_law_L_say : GoodIn wsL_law (va_wsS RL 91 yL_say wsL_say) := goodIn_app (goodIn_of _ (by decide +kernel)) ggL_law_L_say
set_option maxRecDepth 20000 in
theorem ggL_law_X4_say : GoodIn wsL_law wsX4_say := goodIn_r _ [275, 94, 60, 61, 276, 277, 278, 5, 279, 95, 96, 97, 98, 99, 100, 101, 102, 664, 665, 666, 667, 668, 669, 670, 671, 672] (by decide +kernel) (by decide +kernel)
set_option maxRecDepth 20000 in
theorem gL_law_X4_say : GoodIn wsL_law (wsV RL 94 RX4 yX4_say wsX4_say) := goodIn_app (goodIn_of _ (by decide +kernel)) ggL_law_X4_say
set_option maxRecDepth 20000 in
theorem ggL_law_L_hush : GoodIn wsL_law wsL_hush := goodIn_ca (goodIn_r _ [282, 110, 283, 284, 285, 2, 286, 215, 20, 216, 217, 218, 219, 220, 125, 126, 24, 221, 135, 136, 137, 23, 138, 81, 222, 223, 224, 225, 226, 227, 228, 229, 230, 231, 232, 233, 234, 235, 236, 237, 41, 287, 288, 289, 19, 290, 291, 292, 248, 249, 250, 36, 251, 35, 252, 253, 254, 255, 120, 256, 145, 257, 258, 259, 260, 143, 261, 262, 263, 15, 264, 265, 266, 267, 268, 269, 270, 271, 680, 681, 682, 683, 684, 661, 662, 663, 677, 678, 679, 674, 675, 676, 673] (by decide +kernel) (by decide +kernel)) (goodIn_sub (fun _ h => List.mem_append_right _ h) (by decide +kernel))
set_option maxRecDepth 20000 in
theorem gL_law_L_hush : GoodIn wsL_law (va_wsS RL 95 yL_hush wsL_hush) := goodIn_app (goodIn_of _ (by decide +kernel)) ggL_law_L_hush
set_option maxRecDepth 20000 in
theorem ggL_law_X4_hush : GoodIn wsL_law wsX4_hush := goodIn_r _ [296, 94, 60, 276, 277, 278, 5, 279, 95, 96, 97, 98, 99, 100, 101, 102, 664, 665, 666, 667, 668, 669, 670, 671, 672] (by decide +kernel) (by decide +kernel)
set_option maxRecDepth 20000 in
theorem gL_law_X4_hush : GoodIn wsL_law (wsV RL 97 RX4 yX4_hush wsX4_hush) := goodIn_app (goodIn_of _ (by decide +kernel)) ggL_law_X4_hush
set_option maxRecDepth 20000 in
theorem ggL_law_L_setDelay : GoodIn wsL_law wsL_setDelay := goodIn_ca (goodIn_ca (goodIn_r _ [299, 110, 67, 300, 301, 302, 2, 303, 304, 20, 216, 217, 218, 219, 220, 125, 126, 24, 221, 135, 136, 137, 23, 138, 81, 222, 223, 224, 225, 226, 227, 228, 229, 230, 231, 232, 233, 234, 235, 236, 237, 41, 305, 306, 307, 308, 72, 73, 16, 74, 287, 288, 289, 19, 290, 291, 292, 248, 249, 250, 36, 251, 35, 252, 253, 254, 255, 120, 256, 145, 257, 258, 259, 260, 143, 261, 262, 263, 15, 264, 265, 266, 267, 268, 269, 270, 271, 680, 681, 682, 683, 684, 661, 662, 663, 677, 678, 679, 673, 674, 675, 676] (by decide +kernel) (by decide +kernel)) (goodIn_sub (fun _ h => List.mem_append_right _ h) (by decide +kernel))) (goodIn_sub (fun _ h => List.mem_append_left _ (List.mem_append_left _ (List.mem_append_right _ h))) (by decide +kernel))
set_option maxRecDepth 20000 in
theorem gL_law_L_setDelay : GoodIn wsL_law (va_wsS RL 98 yL_setDelay wsL_setDelay) := goodIn_app (goodIn_of _ (by decide +kernel)) ggL_law_L_setDelay
set_option maxRecDepth 20000 in
theorem ggL_law_X4_setDelay : GoodIn wsL_law wsX4_setDelay := goodIn_r _ [312, 94, 59, 276, 277, 278, 5, 279, 95, 96, 97, 98, 99, 100, 101, 102, 201, 202, 203, 204, 56, 664, 665, 666, 667, 668, 669, 670, 671, 672] (by decide +kernel) (by decide +kernel)
set_option maxRecDepth 20000 in
theorem gL_law_X4_setDelay : GoodIn wsL_law (wsV RL 100 RX4 yX4_setDelay wsX4_setDelay) := goodIn_app (goodIn_of _ (by decide +kernel)) ggL_law_X4_setDelay
set_option maxRecDepth 20000 in
theorem ggL_law_L_setStrength : GoodIn wsL_law wsL_setStrength := goodIn_ca (goodIn_ca (goodIn_r _ [315, 110, 67, 316, 317, 318, 2, 319, 216, 20, 217, 218, 219, 220, 125, 126, 24, 221, 135, 136, 137, 23, 138, 81, 222, 223, 224, 225, 226, 227, 228, 229, 230, 231, 232, 233, 234, 235, 236, 237, 41, 131, 132, 133, 134, 72, 73, 287, 288, 289, 19, 290, 291, 292, 248, 249, 250, 36, 251, 35, 252, 253, 254, 255, 120, 256, 145, 257, 258, 259, 260, 143, 261, 262, 263, 15, 264, 265, 266, 267, 268, 269, 270, 271, 680, 681, 682, 683, 684, 661, 662, 663, 677, 678, 679, 674, 675, 676, 673] (by decide +kernel) (by decide +kernel)) (goodIn_sub (fun _ h => List.mem_append_right _ h) (by decide +kernel))) (goodIn_sub (fun _ h => List.mem_append_left _ (List.mem_append_left _ (List.mem_append_right _ h))) (by decide +kernel))
set_option maxRecDepth 20000 in
theorem gL_law_L_setStrength : GoodIn wsL_law (va_wsS RL 101 yL_setStrength wsL_setStrength) := goodIn_app (goodIn_of _ (by decide +kernel)) ggL_law_L_setStrength
set_option maxRecDepth 20000 in
theorem ggL_law_X4_setStrength : GoodIn wsL_law wsX4_setStrength := goodIn_r _ [323, 94, 58, 276, 277, 278, 5, 279, 95, 96, 97, 98, 99, 100, 101, 102, 205, 206, 207, 664, 665, 666, 667, 668, 669, 670, 671, 672] (by decide +kernel) (by decide +kernel)
set_option maxRecDepth 20000 in
theorem gL_law_X4_setStrength : GoodIn wsL_law (wsV RL 103 RX4 yX4_setStrength wsX4_setStrength) := goodIn_app (goodIn_of _ (by decide +kernel)) ggL_law_X4_setStrength
set_option maxRecDepth 20000 in
theorem ggL_law_L_setStorm : GoodIn wsL_law wsL_setStorm := goodIn_ca (goodIn_ca (goodIn_r _ [326, 110, 67, 327, 328, 329, 2, 330, 125, 126, 72, 73, 20, 331, 661, 662, 663, 674, 675, 676] (by decide +kernel) (by decide +kernel)) (goodIn_sub (fun _ h => List.mem_append_right _ h) (by decide +kernel))) (goodIn_sub (fun _ h => List.mem_append_left _ (List.mem_append_left _ (List.mem_append_right _ h))) (by decide +kernel))
set_option maxRecDepth 20000 in
theorem gL_law_L_setStorm : GoodIn wsL_law (va_wsS RL 104 yL_setStorm wsL_setStorm) := goodIn_app (goodIn_of _ (by decide +kernel)) ggL_law_L_setStorm
set_option maxRecDepth 20000 in
theorem ggL_law_X4_setStorm : GoodIn wsL_law wsX4_setStorm := goodIn_r _ [335, 94, 62, 96, 97, 5, 98, 99, 100, 101, 102, 664, 665, 666, 667, 668, 669, 670, 671, 672] (by decide +kernel) (by decide +kernel)
set_option maxRecDepth 20000 in
theorem gL_law_X4_setStorm : GoodIn wsL_law (wsV RL 106 RX4 yX4_setStorm wsX4_setStorm) := goodIn_app (goodIn_of _ (by decide +kernel)) ggL_law_X4_setStorm
set_option maxRecDepth 20000 in
theorem ggL_law_L_chip : GoodIn wsL_law wsL_chip := goodIn_ca (goodIn_r _ [338, 110, 339, 340, 341, 2, 342, 125, 126, 16, 121, 122, 123, 124, 127, 128, 129, 15, 130, 28, 343, 262, 263, 264, 265, 266, 267, 268, 269, 270, 271, 661, 662, 663, 673] (by decide +kernel) (by decide +kernel)) (goodIn_sub (fun _ h => List.mem_append_right _ h) (by decide +kernel))
set_option maxRecDepth 20000 in
theorem gL_law_L_chip : GoodIn wsL_law (va_wsS RL 107 yL_chip wsL_chip) := goodIn_app (goodIn_of _ (by decide +kernel)) ggL_law_L_chip
set_option maxRecDepth 20000 in
theorem ggL_law_X4_chip : GoodIn wsL_law wsX4_chip := goodIn_r _ [347, 94, 201, 202, 203, 5, 204, 56, 96, 97, 98, 348, 349, 350, 351, 266, 267, 268, 269, 270, 271, 99, 100, 101, 102, 664, 665, 666, 667, 668, 669, 670, 671, 672] (by decide +kernel) (by decide +kernel)
set_option maxRecDepth 20000 in
theorem gL_law_X4_chip : GoodIn wsL_law (wsV RL 109 RX4 yX4_chip wsX4_chip) := goodIn_app (goodIn_of _ (by decide +kernel)) ggL_law_X4_chip
set_option maxRecDepth 20000 in
theorem ggL_law_L_sky : GoodIn wsL_law wsL_sky := goodIn_ca (goodIn_r _ [354, 67, 355, 356, 357, 2, 358, 20, 359, 360, 361, 362, 72, 73, 363, 364, 365, 19, 366, 34, 35, 661, 662, 663, 674, 675, 676] (by decide +kernel) (by decide +kernel)) (goodIn_sub (fun _ h => List.mem_append_left _ (List.mem_append_left _ (List.mem_append_right _ h))) (by decide +kernel))
set_option maxRecDepth 20000 in
theorem gL_law_L_sky : GoodIn wsL_law (va_wsS RL 110 yL_sky wsL_sky) := goodIn_app (goodIn_of _ (by decide +kernel)) ggL_law_L_sky
set_option maxRecDepth 20000 in
theorem ggL_law_X4_sky : GoodIn wsL_law wsX4_sky := goodIn_r _ [370, 94, 371, 372, 5, 373, 96, 97, 98, 374, 375, 376, 377, 62, 95, 378, 379, 380, 381, 59, 56, 60, 58, 61, 57, 348, 349, 350, 351, 266, 267, 268, 269, 270, 271, 99, 100, 101, 102, 664, 665, 666, 667, 668, 669, 670, 671, 672] (by decide +kernel) (by decide +kernel)
set_option maxRecDepth 20000 in
theorem gL_law_X4_sky : GoodIn wsL_law (wsV RL 112 RX4 yX4_sky wsX4_sky) := goodIn_app (goodIn_of _ (by decide +kernel)) ggL_law_X4_sky
set_option maxRecDepth 20000 in
theorem ggL_law_L_hear : GoodIn wsL_law wsL_hear := goodIn_ca (goodIn_ca (goodIn_r _ [384, 110, 67, 385, 386, 387, 2, 388, 20, 121, 122, 123, 124, 125, 126, 16, 127, 128, 129, 15, 130, 28, 359, 360, 361, 362, 72, 73, 389, 390, 391, 19, 392, 36, 251, 393, 364, 365, 366, 34, 35, 261, 262, 263, 264, 265, 266, 267, 268, 269, 270, 271, 661, 662, 663, 673, 674, 675, 676] (by decide +kernel) (by decide +kernel)) (goodIn_sub (fun _ h => List.mem_append_right _ h) (by decide +kernel))) (goodIn_sub (fun _ h => List.mem_append_left _ (List.mem_append_left _ (List.mem_append_right _ h))) (by decide +kernel))
set_option maxRecDepth 20000 in
theorem gL_law_L_hear : GoodIn wsL_law (va_wsS RL 113 yL_hear wsL_hear) := goodIn_app (goodIn_of _ (by decide +kernel)) ggL_law_L_hear
set_option maxRecDepth 20000 in
theorem ggL_law_X4_hear : GoodIn wsL_law wsX4_hear := goodIn_r _ [397, 94, 201, 202, 203, 5, 204, 56, 96, 97, 98, 99, 100, 101, 102, 371, 372, 373, 398, 399, 400, 401, 374, 375, 376, 377, 62, 95, 378, 379, 380, 381, 59, 60, 58, 61, 57, 348, 349, 350, 351, 266, 267, 268, 269, 270, 271, 664, 665, 666, 667, 668, 669, 670, 671, 672] (by decide +kernel) (by decide +kernel)
set_option maxRecDepth 20000 in
theorem gL_law_X4_hear : GoodIn wsL_law (wsV RL 115 RX4 yX4_hear wsX4_hear) := goodIn_app (goodIn_of _ (by decide +kernel)) ggL_law_X4_hear
set_option maxRecDepth 20000 in
theorem ggL_law_L_word : GoodIn wsL_law wsL_word := goodIn_ca (goodIn_r _ [404, 110, 405, 406, 407, 2, 408, 125, 126, 215, 20, 217, 218, 219, 220, 24, 221, 135, 136, 137, 23, 138, 81, 222, 223, 224, 225, 226, 227, 228, 229, 230, 231, 232, 233, 234, 235, 236, 237, 41, 409, 254, 255, 120, 256, 145, 410, 411, 412, 19, 413, 252, 36, 251, 257, 258, 259, 260, 143, 414, 390, 391, 392, 393, 364, 365, 366, 34, 35, 261, 262, 263, 15, 264, 265, 266, 267, 268, 269, 270, 271, 415, 416, 417, 418, 419, 680, 681, 682, 683, 684, 661, 662, 663, 677, 678, 679, 674, 675, 676, 673] (by decide +kernel) (by decide +kernel)) (goodIn_sub (fun _ h => List.mem_append_right _ h) (by decide +kernel))
set_option maxRecDepth 20000 in
theorem gL_law_L_word : GoodIn wsL_law (va_wsS RL 116 yL_word wsL_word) := goodIn_app (goodIn_of _ (by decide +kernel)) ggL_law_L_word
set_option maxRecDepth 20000 in
theorem ggL_law_X4_word : GoodIn wsL_law wsX4_word := goodIn_r _ [423, 94, 60, 276, 277, 278, 5, 279, 95, 96, 97, 98, 424, 425, 426, 427, 61, 428, 429, 430, 431, 57, 432, 433, 434, 435, 59, 56, 398, 399, 400, 401, 374, 375, 376, 377, 62, 378, 379, 380, 381, 58, 348, 349, 350, 351, 266, 267, 268, 269, 270, 271, 436, 437, 438, 439, 440, 441, 442, 99, 100, 101, 102, 664, 665, 666, 667, 668, 669, 670, 671, 672] (by decide +kernel) (by decide +kernel)
set_option maxRecDepth 20000 in
theorem gL_law_X4_word : GoodIn wsL_law (wsV RL 119 RX4 yX4_word wsX4_word) := goodIn_app (goodIn_of _ (by decide +kernel)) ggL_law_X4_word
set_option maxRecDepth 20000 in
theorem ggL_law_L_about : GoodIn wsL_law wsL_about := goodIn_ca (goodIn_r _ [445, 110, 446, 447, 448, 2, 449, 125, 126, 450, 216, 304, 215, 20, 16, 74, 217, 218, 219, 220, 24, 221, 135, 136, 137, 23, 138, 81, 222, 223, 224, 225, 226, 227, 228, 229, 230, 231, 232, 233, 234, 235, 236, 237, 41, 451, 452, 453, 19, 454, 291, 455, 411, 412, 413, 252, 36, 251, 257, 258, 259, 120, 260, 143, 414, 390, 391, 392, 393, 364, 365, 366, 34, 35, 261, 262, 263, 15, 264, 265, 266, 267, 268, 269, 270, 271, 456, 416, 417, 418, 419, 254, 255, 256, 145, 457, 458, 459, 460, 144, 461, 462, 463, 464, 465, 466, 467, 166, 468, 680, 681, 682, 683, 684, 661, 662, 663, 673, 677, 678, 679, 674, 675, 676] (by decide +kernel) (by decide +kernel)) (goodIn_sub (fun _ h => List.mem_append_right _ h) (by decide +kernel))
set_option maxRecDepth 20000 in
theorem gL_law_L_about : GoodIn wsL_law (va_wsS RL 120 yL_about wsL_about) := goodIn_app (goodIn_of _ (by decide +kernel)) ggL_law_L_about
set_option maxRecDepth 20000 in
theorem ggL_law_X4_about : GoodIn wsL_law wsX4_about := goodIn_r _ [472, 94, 276, 277, 278, 5, 279, 95, 96, 97, 98, 473, 474, 475, 476, 57, 58, 59, 60, 477, 478, 479, 480, 436, 437, 438, 439, 61, 428, 429, 430, 431, 432, 433, 434, 435, 56, 398, 399, 400, 401, 374, 375, 376, 377, 62, 378, 379, 380, 381, 348, 349, 350, 351, 266, 267, 268, 269, 270, 271, 440, 441, 442, 481, 482, 483, 484, 485, 486, 487, 488, 489, 467, 166, 468, 490, 191, 192, 99, 100, 101, 102, 664, 665, 666, 667, 668, 669, 670, 671, 672] (by decide +kernel) (by decide +kernel)
set_option maxRecDepth 20000 in
theorem gL_law_X4_about : GoodIn wsL_law (wsV RL 122 RX4 yX4_about wsX4_about) := goodIn_app (goodIn_of _ (by decide +kernel)) ggL_law_X4_about
set_option maxRecDepth 20000 in
theorem ggL_law_L_count : GoodIn wsL_law wsL_count := goodIn_ca (goodIn_r _ [493, 110, 494, 495, 496, 2, 497, 125, 126, 16, 74, 24, 20, 135, 136, 137, 23, 138, 81, 498, 499, 500, 501, 221, 215, 222, 223, 224, 225, 226, 227, 228, 229, 230, 231, 232, 233, 234, 235, 236, 237, 41, 502, 503, 504, 505, 451, 452, 453, 19, 454, 291, 455, 411, 412, 413, 252, 36, 251, 257, 258, 259, 120, 260, 143, 414, 390, 391, 392, 393, 364, 365, 366, 34, 35, 261, 262, 263, 15, 264, 265, 266, 267, 268, 269, 270, 271, 456, 416, 417, 418, 419, 254, 255, 256, 145, 506, 507, 508, 509, 510, 165, 166, 167, 457, 458, 459, 460, 144, 461, 511, 512, 513, 514, 466, 467, 468, 515, 516, 517, 518, 519, 520, 521, 522, 523, 450, 661, 662, 663, 673, 677, 678, 679, 680, 681, 682, 683, 684, 674, 675, 676] (by decide +kernel) (by decide +kernel)) (goodIn_sub (fun _ h => List.mem_append_right _ h) (by decide +kernel))
set_option maxRecDepth 20000 in
theorem gL_law_L_count : GoodIn wsL_law (va_wsS RL 123 yL_count wsL_count) := goodIn_app (goodIn_of _ (by decide +kernel)) ggL_law_L_count
set_option maxRecDepth 20000 in
theorem ggL_law_X4_count : GoodIn wsL_law wsX4_count := goodIn_r _ [527, 94, 96, 97, 5, 98, 528, 529, 530, 531, 56, 95, 60, 532, 533, 534, 535, 477, 478, 479, 480, 436, 437, 438, 439, 61, 428, 429, 430, 431, 57, 432, 433, 434, 435, 59, 398, 399, 400, 401, 374, 375, 376, 377, 62, 378, 379, 380, 381, 58, 348, 349, 350, 351, 266, 267, 268, 269, 270, 271, 440, 441, 442, 536, 537, 538, 539, 540, 165, 166, 167, 481, 482, 483, 484, 541, 542, 543, 544, 489, 467, 468, 545, 546, 547, 548, 99, 100, 101, 102, 664, 665, 666, 667, 668, 669, 670, 671, 672] (by decide +kernel) (by decide +kernel)
set_option maxRecDepth 20000 in
theorem gL_law_X4_count : GoodIn wsL_law (wsV RL 125 RX4 yX4_count wsX4_count) := goodIn_app (goodIn_of _ (by decide +kernel)) ggL_law_X4_count
set_option maxRecDepth 20000 in
theorem ggL_law_L_alike : GoodIn wsL_law wsL_alike := goodIn_ca (goodIn_ca (goodIn_r _ [551, 110, 67, 552, 553, 554, 2, 555, 72, 73, 16, 121, 122, 123, 124, 125, 126, 127, 128, 129, 15, 130, 28, 556, 557, 558, 559, 560, 467, 166, 468, 561, 262, 263, 264, 265, 266, 267, 268, 269, 270, 271, 661, 662, 663, 673] (by decide +kernel) (by decide +kernel)) (goodIn_sub (fun _ h => List.mem_append_left _ (List.mem_append_left _ (List.mem_append_right _ h))) (by decide +kernel))) (goodIn_sub (fun _ h => List.mem_append_right _ h) (by decide +kernel))
set_option maxRecDepth 20000 in
theorem gL_law_L_alike : GoodIn wsL_law (va_wsS RL 126 yL_alike wsL_alike) := goodIn_app (goodIn_of _ (by decide +kernel)) ggL_law_L_alike
set_option maxRecDepth 20000 in
theorem ggL_law_X4_alike : GoodIn wsL_law wsX4_alike := goodIn_r _ [565, 94, 201, 202, 203, 5, 204, 56, 96, 97, 98, 99, 100, 101, 102, 566, 567, 568, 569, 489, 467, 166, 468, 348, 349, 350, 351, 266, 267, 268, 269, 270, 271, 664, 665, 666, 667, 668, 669, 670, 671, 672] (by decide +kernel) (by decide +kernel)
set_option maxRecDepth 20000 in
theorem gL_law_X4_alike : GoodIn wsL_law (wsV RL 128 RX4 yX4_alike wsX4_alike) := goodIn_app (goodIn_of _ (by decide +kernel)) ggL_law_X4_alike
set_option maxRecDepth 20000 in
theorem ggL_law_L_shift : GoodIn wsL_law wsL_shift := goodIn_ca (goodIn_r _ [572, 110, 573, 574, 575, 2, 576, 16, 74, 121, 122, 123, 124, 125, 126, 127, 128, 129, 15, 130, 28, 556, 557, 558, 559, 560, 467, 166, 468, 561, 262, 263, 264, 265, 266, 267, 268, 269, 270, 271, 661, 662, 663, 673] (by decide +kernel) (by decide +kernel)) (goodIn_sub (fun _ h => List.mem_append_right _ h) (by decide +kernel))
set_option maxRecDepth 20000 in
theorem gL_law_L_shift : GoodIn wsL_law (va_wsS RL 129 yL_shift wsL_shift) := goodIn_app (goodIn_of _ (by decide +kernel)) ggL_law_L_shift
set_option maxRecDepth 20000 in
theorem ggL_law_X4_shift : GoodIn wsL_law wsX4_shift := goodIn_r _ [580, 94, 56, 201, 202, 203, 5, 204, 96, 97, 98, 99, 100, 101, 102, 566, 567, 568, 569, 489, 467, 166, 468, 348, 349, 350, 351, 266, 267, 268, 269, 270, 271, 664, 665, 666, 667, 668, 669, 670, 671, 672] (by decide +kernel) (by decide +kernel)
set_option maxRecDepth 20000 in
theorem gL_law_X4_shift : GoodIn wsL_law (wsV RL 131 RX4 yX4_shift wsX4_shift) := goodIn_app (goodIn_of _ (by decide +kernel)) ggL_law_X4_shift
set_option maxRecDepth 20000 in
theorem ggL_law_L_advise : GoodIn wsL_law wsL_advise := goodIn_ca (goodIn_r _ [583, 67, 584, 585, 586, 2, 587, 16, 74, 305, 306, 307, 308, 72, 73, 520, 521, 522, 523, 24, 221, 450, 135, 136, 137, 23, 138, 81, 222, 223, 224, 225, 226, 227, 228, 229, 230, 231, 232, 233, 234, 235, 236, 237, 41, 588, 589, 590, 591, 304, 216, 556, 557, 558, 15, 559, 28, 560, 467, 166, 468, 561, 262, 263, 264, 265, 266, 267, 268, 269, 270, 271, 661, 662, 663, 673, 680, 681, 682, 683, 684, 677, 678, 679] (by decide +kernel) (by decide +kernel)) (goodIn_sub (fun _ h => List.mem_append_left _ (List.mem_append_left _ (List.mem_append_right _ h))) (by decide +kernel))
set_option maxRecDepth 20000 in
theorem gL_law_L_advise : GoodIn wsL_law (va_wsS RL 132 yL_advise wsL_advise) := goodIn_app (goodIn_of _ (by decide +kernel)) ggL_law_L_advise
set_option maxRecDepth 20000 in
theorem ggL_law_X4_advise : GoodIn wsL_law wsX4_advise := goodIn_r _ [595, 94, 56, 201, 202, 203, 5, 204, 96, 97, 98, 99, 100, 101, 102, 545, 546, 547, 548, 95, 57, 596, 597, 598, 599, 58, 59, 566, 567, 568, 569, 489, 467, 166, 468, 348, 349, 350, 351, 266, 267, 268, 269, 270, 271, 664, 665, 666, 667, 668, 669, 670, 671, 672] (by decide +kernel) (by decide +kernel)
set_option maxRecDepth 20000 in
theorem gL_law_X4_advise : GoodIn wsL_law (wsV RL 134 RX4 yX4_advise wsX4_advise) := goodIn_app (goodIn_of _ (by decide +kernel)) ggL_law_X4_advise
set_option maxRecDepth 20000 in
theorem ggL_law_L_would : GoodIn wsL_law wsL_would := goodIn_ca (goodIn_ca (goodIn_r _ [602, 110, 67, 603, 604, 605, 2, 606, 217, 218, 219, 220, 125, 126, 24, 221, 135, 136, 137, 23, 138, 81, 222, 223, 224, 225, 226, 227, 228, 229, 230, 231, 232, 233, 234, 235, 236, 237, 41, 131, 132, 133, 134, 72, 73, 607, 608, 609, 610, 216, 20, 287, 288, 289, 19, 290, 291, 292, 248, 249, 250, 36, 251, 35, 252, 253, 254, 255, 120, 256, 145, 257, 258, 259, 260, 143, 261, 262, 263, 15, 264, 265, 266, 267, 268, 269, 270, 271, 502, 503, 504, 505, 451, 452, 453, 454, 455, 411, 412, 413, 414, 390, 391, 392, 393, 364, 365, 366, 34, 456, 416, 417, 418, 419, 661, 662, 663, 677, 678, 679, 680, 681, 682, 683, 684, 674, 675, 676, 673] (by decide +kernel) (by decide +kernel)) (goodIn_sub (fun _ h => List.mem_append_right _ h) (by decide +kernel))) (goodIn_sub (fun _ h => List.mem_append_left _ (List.mem_append_left _ (List.mem_append_right _ h))) (by decide +kernel))
set_option maxRecDepth 20000 in
theorem gL_law_L_would : GoodIn wsL_law (va_wsS RL 135 yL_would wsL_would) := goodIn_app (goodIn_of _ (by decide +kernel)) ggL_law_L_would
set_option maxRecDepth 20000 in
theorem ggL_law_X4_would : GoodIn wsL_law wsX4_would := goodIn_r _ [614, 94, 276, 277, 278, 5, 279, 95, 96, 97, 98, 99, 100, 101, 102, 205, 206, 207, 615, 616, 617, 618, 58, 532, 533, 534, 535, 477, 478, 479, 480, 60, 436, 437, 438, 439, 61, 428, 429, 430, 431, 57, 432, 433, 434, 435, 59, 56, 398, 399, 400, 401, 374, 375, 376, 377, 62, 378, 379, 380, 381, 348, 349, 350, 351, 266, 267, 268, 269, 270, 271, 440, 441, 442, 664, 665, 666, 667, 668, 669, 670, 671, 672] (by decide +kernel) (by decide +kernel)
set_option maxRecDepth 20000 in
theorem gL_law_X4_would : GoodIn wsL_law (wsV RL 137 RX4 yX4_would wsX4_would) := goodIn_app (goodIn_of _ (by decide +kernel)) ggL_law_X4_would
set_option maxRecDepth 20000 in
theorem ggL_law_L_tune : GoodIn wsL_law wsL_tune := goodIn_ca (goodIn_r _ [621, 110, 622, 623, 624, 2, 625, 217, 218, 219, 220, 125, 126, 24, 221, 135, 136, 137, 23, 138, 81, 222, 223, 224, 225, 226, 227, 228, 229, 230, 231, 232, 233, 234, 235, 236, 237, 41, 607, 608, 609, 610, 216, 20, 287, 288, 289, 19, 290, 291, 292, 248, 249, 250, 36, 251, 35, 252, 253, 254, 255, 120, 256, 145, 257, 258, 259, 260, 143, 261, 262, 263, 15, 264, 265, 266, 267, 268, 269, 270, 271, 502, 503, 504, 505, 451, 452, 453, 454, 455, 411, 412, 413, 414, 390, 391, 392, 393, 364, 365, 366, 34, 456, 416, 417, 418, 419, 661, 662, 663, 677, 678, 679, 680, 681, 682, 683, 684, 674, 675, 676, 673] (by decide +kernel) (by decide +kernel)) (goodIn_sub (fun _ h => List.mem_append_right _ h) (by decide +kernel))
set_option maxRecDepth 20000 in
theorem gL_law_L_tune : GoodIn wsL_law (va_wsS RL 138 yL_tune wsL_tune) := goodIn_app (goodIn_of _ (by decide +kernel)) ggL_law_L_tune
set_option maxRecDepth 20000 in
theorem ggL_law_X4_tune : GoodIn wsL_law wsX4_tune := goodIn_r _ [629, 94, 276, 277, 278, 5, 279, 95, 96, 97, 98, 99, 100, 101, 102, 615, 616, 617, 618, 58, 532, 533, 534, 535, 477, 478, 479, 480, 60, 436, 437, 438, 439, 61, 428, 429, 430, 431, 57, 432, 433, 434, 435, 59, 56, 398, 399, 400, 401, 374, 375, 376, 377, 62, 378, 379, 380, 381, 348, 349, 350, 351, 266, 267, 268, 269, 270, 271, 440, 441, 442, 664, 665, 666, 667, 668, 669, 670, 671, 672] (by decide +kernel) (by decide +kernel)
set_option maxRecDepth 20000 in
theorem gL_law_X4_tune : GoodIn wsL_law (wsV RL 140 RX4 yX4_tune wsX4_tune) := goodIn_app (goodIn_of _ (by decide +kernel)) ggL_law_X4_tune
set_option maxRecDepth 20000 in
theorem ggL_law_X3_mean : GoodIn wsL_law wsX3_mean := goodIn_r _ [633, 20, 506, 507, 508, 2, 509, 24, 221, 16, 74, 510, 165, 166, 167, 135, 136, 137, 23, 138, 81, 222, 223, 224, 225, 226, 227, 228, 229, 230, 231, 232, 233, 234, 235, 236, 237, 41, 457, 458, 459, 120, 460, 144, 461, 258, 259, 260, 143, 634, 635, 636, 19, 637, 393, 364, 365, 366, 34, 35, 661, 662, 663, 673, 677, 678, 679, 680, 681, 682, 683, 684, 674, 675, 676] (by decide +kernel) (by decide +kernel)
set_option maxRecDepth 20000 in
theorem gL_law_X3_mean : GoodIn wsL_law (wsV RL 141 RX3 yX3_mean wsX3_mean) := goodIn_app (goodIn_of _ (by decide +kernel)) ggL_law_X3_mean
set_option maxRecDepth 20000 in
theorem ggL_law_X4_mean : GoodIn wsL_law wsX4_mean := goodIn_r _ [641, 94, 536, 537, 538, 5, 539, 95, 540, 165, 166, 167, 481, 482, 483, 484, 60, 432, 433, 434, 435, 59, 56, 374, 375, 376, 377, 62, 378, 379, 380, 381, 58, 61, 57, 348, 349, 350, 351, 266, 267, 268, 269, 270, 271, 664, 665, 666, 667, 668, 669, 670, 671, 672] (by decide +kernel) (by decide +kernel)
set_option maxRecDepth 20000 in
theorem gL_law_X4_mean : GoodIn wsL_law (wsV RL 145 RX4 yX4_mean wsX4_mean) := goodIn_app (goodIn_of _ (by decide +kernel)) ggL_law_X4_mean
set_option maxRecDepth 20000 in
theorem ggL_law_X3_digest : GoodIn wsL_law wsX3_digest := goodIn_ca (goodIn_r _ [645, 646, 647, 20, 331, 24, 648, 495, 496, 2, 497, 125, 126, 16, 74, 135, 136, 137, 23, 138, 81, 498, 499, 500, 501, 221, 215, 222, 223, 224, 225, 226, 227, 228, 229, 230, 231, 232, 233, 234, 235, 236, 237, 41, 502, 503, 504, 505, 451, 452, 453, 19, 454, 291, 455, 411, 412, 413, 252, 36, 251, 257, 258, 259, 120, 260, 143, 414, 390, 391, 392, 393, 364, 365, 366, 34, 35, 261, 262, 263, 15, 264, 265, 266, 267, 268, 269, 270, 271, 456, 416, 417, 418, 419, 254, 255, 256, 145, 506, 507, 508, 509, 510, 165, 166, 167, 457, 458, 459, 460, 144, 461, 511, 512, 513, 514, 466, 467, 468, 515, 516, 517, 518, 519, 520, 521, 522, 523, 450, 649, 650, 651, 652, 653, 447, 448, 449, 216, 304, 217, 218, 219, 220, 462, 463, 464, 465, 654, 406, 407, 408, 409, 410, 415, 661, 662, 663, 674, 675, 676, 673, 677, 678, 679, 680, 681, 682, 683, 684] (by decide +kernel) (by decide +kernel)) (goodIn_sub (fun _ h => List.mem_append_right _ h) (by decide +kernel))
set_option maxRecDepth 20000 in
theorem gL_law_X3_digest : GoodIn wsL_law (wsV RL 146 RX3 yX3_digest wsX3_digest) := goodIn_app (goodIn_of _ (by decide +kernel)) ggL_law_X3_digest
set_option maxRecDepth 20000 in
theorem ggL_law_X4_digest : GoodIn wsL_law wsX4_digest := goodIn_r _ [658, 94, 659, 660, 62, 95, 60, 528, 529, 530, 5, 531, 56, 532, 533, 534, 535, 477, 478, 479, 480, 436, 437, 438, 439, 61, 428, 429, 430, 431, 57, 432, 433, 434, 435, 59, 398, 399, 400, 401, 374, 375, 376, 377, 378, 379, 380, 381, 58, 348, 349, 350, 351, 266, 267, 268, 269, 270, 271, 440, 441, 442, 536, 537, 538, 539, 540, 165, 166, 167, 481, 482, 483, 484, 541, 542, 543, 544, 489, 467, 468, 545, 546, 547, 548, 473, 474, 475, 476, 485, 486, 487, 488, 490, 191, 192, 424, 425, 426, 427, 664, 665, 666, 667, 668, 669, 670, 671, 672] (by decide +kernel) (by decide +kernel)
set_option maxRecDepth 20000 in
theorem gL_law_X4_digest : GoodIn wsL_law (wsV RL 150 RX4 yX4_digest wsX4_digest) := goodIn_app (goodIn_of _ (by decide +kernel)) ggL_law_X4_digest
theorem dL_law_0 : decode cL_law 0 = .ok (.new 8, 3) := by decide +kernel
theorem dL_law_3 : decode cL_law 3 = .ok (.dup, 1) := by decide +kernel
theorem dL_law_4 : decode cL_law 4 = .ok (.invokespecial 73, 3) := by decide +kernel
theorem dL_law_7 : decode cL_law 7 = .ok (.astore_n 1, 1) := by decide +kernel
theorem dL_law_8 : decode cL_law 8 = .ok (.new 74, 3) := by decide +kernel
theorem dL_law_11 : decode cL_law 11 = .ok (.dup, 1) := by decide +kernel
theorem dL_law_12 : decode cL_law 12 = .ok (.invokespecial 76, 3) := by decide +kernel
theorem dL_law_15 : decode cL_law 15 = .ok (.astore_n 2, 1) := by decide +kernel
theorem dL_law_16 : decode cL_law 16 = .ok (.iconst 1, 1) := by decide +kernel
theorem dL_law_17 : decode cL_law 17 = .ok (.newarray .long, 2) := by decide +kernel
theorem dL_law_19 : decode cL_law 19 = .ok (.astore_n 3, 1) := by decide +kernel
theorem dL_law_20 : decode cL_law 20 = .ok (.iconst 0, 1) := by decide +kernel
theorem dL_law_21 : decode cL_law 21 = .ok (.istore 4, 2) := by decide +kernel
theorem dL_law_23 : decode cL_law 23 = .ok (.iload 4, 2) := by decide +kernel
theorem dL_law_25 : decode cL_law 25 = .ok (.aload_n 0, 1) := by decide +kernel
theorem dL_law_26 : decode cL_law 26 = .ok (.arraylength, 1) := by decide +kernel
theorem dL_law_27 : decode cL_law 27 = .ok (.iconst 4, 1) := by decide +kernel
theorem dL_law_28 : decode cL_law 28 = .ok (.isub, 1) := by decide +kernel
theorem dL_law_29 : decode cL_law 29 = .ok (.if_icmp .gt 1356, 3) := by decide +kernel
theorem dL_law_32 : decode cL_law 32 = .ok (.aload_n 0, 1) := by decide +kernel
theorem dL_law_33 : decode cL_law 33 = .ok (.iload 4, 2) := by decide +kernel
theorem dL_law_35 : decode cL_law 35 = .ok (.iaload, 1) := by decide +kernel
theorem dL_law_36 : decode cL_law 36 = .ok (.bipush 31, 2) := by decide +kernel
theorem dL_law_38 : decode cL_law 38 = .ok (.iand, 1) := by decide +kernel
theorem dL_law_39 : decode cL_law 39 = .ok (.tableswitch 1340 0 19 #[93, 149, 217, 301, 357, 425, 493, 561, 629, 685, 753, 833, 901, 957, 1037, 1105, 1161, 1229, 1285, 1326], 93) := by decide +kernel
theorem dL_law_132 : decode cL_law 132 = .ok (.aload_n 1, 1) := by decide +kernel
theorem dL_law_133 : decode cL_law 133 = .ok (.aload_n 0, 1) := by decide +kernel
theorem dL_law_134 : decode cL_law 134 = .ok (.iload 4, 2) := by decide +kernel
theorem dL_law_136 : decode cL_law 136 = .ok (.iconst 1, 1) := by decide +kernel
theorem dL_law_137 : decode cL_law 137 = .ok (.iadd, 1) := by decide +kernel
theorem dL_law_138 : decode cL_law 138 = .ok (.iaload, 1) := by decide +kernel
theorem dL_law_139 : decode cL_law 139 = .ok (.aload_n 3, 1) := by decide +kernel
theorem dL_law_140 : decode cL_law 140 = .ok (.invokestatic 77, 3) := by decide +kernel
theorem dL_law_143 : decode cL_law 143 = .ok (.istore 5, 2) := by decide +kernel
theorem dL_law_145 : decode cL_law 145 = .ok (.aload_n 2, 1) := by decide +kernel
theorem dL_law_146 : decode cL_law 146 = .ok (.aload_n 0, 1) := by decide +kernel
theorem dL_law_147 : decode cL_law 147 = .ok (.iload 4, 2) := by decide +kernel
theorem dL_law_149 : decode cL_law 149 = .ok (.iconst 1, 1) := by decide +kernel
theorem dL_law_150 : decode cL_law 150 = .ok (.iadd, 1) := by decide +kernel
theorem dL_law_151 : decode cL_law 151 = .ok (.iaload, 1) := by decide +kernel
theorem dL_law_152 : decode cL_law 152 = .ok (.invokevirtual 82, 3) := by decide +kernel
theorem dL_law_155 : decode cL_law 155 = .ok (.istore 6, 2) := by decide +kernel
theorem dL_law_157 : decode cL_law 157 = .ok (.aload_n 2, 1) := by decide +kernel
theorem dL_law_158 : decode cL_law 158 = .ok (.invokevirtual 83, 3) := by decide +kernel
theorem dL_law_161 : decode cL_law 161 = .ok (.iload 5, 2) := by decide +kernel
theorem dL_law_163 : decode cL_law 163 = .ok (.if_icmp .eq 5, 3) := by decide +kernel
theorem dL_law_166 : decode cL_law 166 = .ok (.iconst 0, 1) := by decide +kernel
theorem dL_law_167 : decode cL_law 167 = .ok (.ireturn, 1) := by decide +kernel
theorem dL_law_168 : decode cL_law 168 = .ok (.iload 5, 2) := by decide +kernel
theorem dL_law_170 : decode cL_law 170 = .ok (.ifCond .ne 15, 3) := by decide +kernel
theorem dL_law_173 : decode cL_law 173 = .ok (.aload_n 3, 1) := by decide +kernel
theorem dL_law_174 : decode cL_law 174 = .ok (.iconst 0, 1) := by decide +kernel
theorem dL_law_175 : decode cL_law 175 = .ok (.laload, 1) := by decide +kernel
theorem dL_law_176 : decode cL_law 176 = .ok (.iload 6, 2) := by decide +kernel
theorem dL_law_178 : decode cL_law 178 = .ok (.i2l, 1) := by decide +kernel
theorem dL_law_179 : decode cL_law 179 = .ok (.lcmp, 1) := by decide +kernel
theorem dL_law_180 : decode cL_law 180 = .ok (.ifCond .eq 5, 3) := by decide +kernel
theorem dL_law_183 : decode cL_law 183 = .ok (.iconst 0, 1) := by decide +kernel
theorem dL_law_184 : decode cL_law 184 = .ok (.ireturn, 1) := by decide +kernel
theorem dL_law_185 : decode cL_law 185 = .ok (.goto 1194, 3) := by decide +kernel
theorem dL_law_188 : decode cL_law 188 = .ok (.aload_n 1, 1) := by decide +kernel
theorem dL_law_189 : decode cL_law 189 = .ok (.aload_n 0, 1) := by decide +kernel
theorem dL_law_190 : decode cL_law 190 = .ok (.iload 4, 2) := by decide +kernel
theorem dL_law_192 : decode cL_law 192 = .ok (.iconst 1, 1) := by decide +kernel
theorem dL_law_193 : decode cL_law 193 = .ok (.iadd, 1) := by decide +kernel
theorem dL_law_194 : decode cL_law 194 = .ok (.iaload, 1) := by decide +kernel
theorem dL_law_195 : decode cL_law 195 = .ok (.aload_n 0, 1) := by decide +kernel
theorem dL_law_196 : decode cL_law 196 = .ok (.iload 4, 2) := by decide +kernel
theorem dL_law_198 : decode cL_law 198 = .ok (.iconst 2, 1) := by decide +kernel
theorem dL_law_199 : decode cL_law 199 = .ok (.iadd, 1) := by decide +kernel
theorem dL_law_200 : decode cL_law 200 = .ok (.iaload, 1) := by decide +kernel
theorem dL_law_201 : decode cL_law 201 = .ok (.aload_n 3, 1) := by decide +kernel
theorem dL_law_202 : decode cL_law 202 = .ok (.invokestatic 87, 3) := by decide +kernel
theorem dL_law_205 : decode cL_law 205 = .ok (.istore 5, 2) := by decide +kernel
theorem dL_law_207 : decode cL_law 207 = .ok (.aload_n 2, 1) := by decide +kernel
theorem dL_law_208 : decode cL_law 208 = .ok (.aload_n 0, 1) := by decide +kernel
theorem dL_law_209 : decode cL_law 209 = .ok (.iload 4, 2) := by decide +kernel
theorem dL_law_211 : decode cL_law 211 = .ok (.iconst 1, 1) := by decide +kernel
theorem dL_law_212 : decode cL_law 212 = .ok (.iadd, 1) := by decide +kernel
theorem dL_law_213 : decode cL_law 213 = .ok (.iaload, 1) := by decide +kernel
theorem dL_law_214 : decode cL_law 214 = .ok (.aload_n 0, 1) := by decide +kernel
theorem dL_law_215 : decode cL_law 215 = .ok (.iload 4, 2) := by decide +kernel
theorem dL_law_217 : decode cL_law 217 = .ok (.iconst 2, 1) := by decide +kernel
theorem dL_law_218 : decode cL_law 218 = .ok (.iadd, 1) := by decide +kernel
theorem dL_law_219 : decode cL_law 219 = .ok (.iaload, 1) := by decide +kernel
theorem dL_law_220 : decode cL_law 220 = .ok (.invokevirtual 90, 3) := by decide +kernel
theorem dL_law_223 : decode cL_law 223 = .ok (.istore 6, 2) := by decide +kernel
theorem dL_law_225 : decode cL_law 225 = .ok (.aload_n 2, 1) := by decide +kernel
theorem dL_law_226 : decode cL_law 226 = .ok (.invokevirtual 83, 3) := by decide +kernel
theorem dL_law_229 : decode cL_law 229 = .ok (.iload 5, 2) := by decide +kernel
theorem dL_law_231 : decode cL_law 231 = .ok (.if_icmp .eq 5, 3) := by decide +kernel
theorem dL_law_234 : decode cL_law 234 = .ok (.iconst 0, 1) := by decide +kernel
theorem dL_law_235 : decode cL_law 235 = .ok (.ireturn, 1) := by decide +kernel
theorem dL_law_236 : decode cL_law 236 = .ok (.iload 5, 2) := by decide +kernel
theorem dL_law_238 : decode cL_law 238 = .ok (.ifCond .ne 15, 3) := by decide +kernel
theorem dL_law_241 : decode cL_law 241 = .ok (.aload_n 3, 1) := by decide +kernel
theorem dL_law_242 : decode cL_law 242 = .ok (.iconst 0, 1) := by decide +kernel
theorem dL_law_243 : decode cL_law 243 = .ok (.laload, 1) := by decide +kernel
theorem dL_law_244 : decode cL_law 244 = .ok (.iload 6, 2) := by decide +kernel
theorem dL_law_246 : decode cL_law 246 = .ok (.i2l, 1) := by decide +kernel
theorem dL_law_247 : decode cL_law 247 = .ok (.lcmp, 1) := by decide +kernel
theorem dL_law_248 : decode cL_law 248 = .ok (.ifCond .eq 5, 3) := by decide +kernel
theorem dL_law_251 : decode cL_law 251 = .ok (.iconst 0, 1) := by decide +kernel
theorem dL_law_252 : decode cL_law 252 = .ok (.ireturn, 1) := by decide +kernel
theorem dL_law_253 : decode cL_law 253 = .ok (.goto 1126, 3) := by decide +kernel
theorem dL_law_256 : decode cL_law 256 = .ok (.aload_n 1, 1) := by decide +kernel
theorem dL_law_257 : decode cL_law 257 = .ok (.aload_n 0, 1) := by decide +kernel
theorem dL_law_258 : decode cL_law 258 = .ok (.iload 4, 2) := by decide +kernel
theorem dL_law_260 : decode cL_law 260 = .ok (.iconst 1, 1) := by decide +kernel
theorem dL_law_261 : decode cL_law 261 = .ok (.iadd, 1) := by decide +kernel
theorem dL_law_262 : decode cL_law 262 = .ok (.iaload, 1) := by decide +kernel
theorem dL_law_263 : decode cL_law 263 = .ok (.aload_n 0, 1) := by decide +kernel
theorem dL_law_264 : decode cL_law 264 = .ok (.iload 4, 2) := by decide +kernel
theorem dL_law_266 : decode cL_law 266 = .ok (.iconst 2, 1) := by decide +kernel
theorem dL_law_267 : decode cL_law 267 = .ok (.iadd, 1) := by decide +kernel
theorem dL_law_268 : decode cL_law 268 = .ok (.iaload, 1) := by decide +kernel
theorem dL_law_269 : decode cL_law 269 = .ok (.ifCond .eq 7, 3) := by decide +kernel
theorem dL_law_272 : decode cL_law 272 = .ok (.iconst 1, 1) := by decide +kernel
theorem dL_law_273 : decode cL_law 273 = .ok (.goto 4, 3) := by decide +kernel
theorem dL_law_276 : decode cL_law 276 = .ok (.iconst 0, 1) := by decide +kernel
theorem dL_law_277 : decode cL_law 277 = .ok (.aload_n 3, 1) := by decide +kernel
theorem dL_law_278 : decode cL_law 278 = .ok (.invokestatic 91, 3) := by decide +kernel
theorem dL_law_281 : decode cL_law 281 = .ok (.istore 5, 2) := by decide +kernel
theorem dL_law_283 : decode cL_law 283 = .ok (.aload_n 2, 1) := by decide +kernel
theorem dL_law_284 : decode cL_law 284 = .ok (.aload_n 0, 1) := by decide +kernel
theorem dL_law_285 : decode cL_law 285 = .ok (.iload 4, 2) := by decide +kernel
theorem dL_law_287 : decode cL_law 287 = .ok (.iconst 1, 1) := by decide +kernel
theorem dL_law_288 : decode cL_law 288 = .ok (.iadd, 1) := by decide +kernel
theorem dL_law_289 : decode cL_law 289 = .ok (.iaload, 1) := by decide +kernel
theorem dL_law_290 : decode cL_law 290 = .ok (.aload_n 0, 1) := by decide +kernel
theorem dL_law_291 : decode cL_law 291 = .ok (.iload 4, 2) := by decide +kernel
theorem dL_law_293 : decode cL_law 293 = .ok (.iconst 2, 1) := by decide +kernel
theorem dL_law_294 : decode cL_law 294 = .ok (.iadd, 1) := by decide +kernel
theorem dL_law_295 : decode cL_law 295 = .ok (.iaload, 1) := by decide +kernel
theorem dL_law_296 : decode cL_law 296 = .ok (.ifCond .eq 7, 3) := by decide +kernel
theorem dL_law_299 : decode cL_law 299 = .ok (.iconst 1, 1) := by decide +kernel
theorem dL_law_300 : decode cL_law 300 = .ok (.goto 4, 3) := by decide +kernel
theorem dL_law_303 : decode cL_law 303 = .ok (.iconst 0, 1) := by decide +kernel
theorem dL_law_304 : decode cL_law 304 = .ok (.invokevirtual 94, 3) := by decide +kernel
theorem dL_law_307 : decode cL_law 307 = .ok (.istore 6, 2) := by decide +kernel
theorem dL_law_309 : decode cL_law 309 = .ok (.aload_n 2, 1) := by decide +kernel
theorem dL_law_310 : decode cL_law 310 = .ok (.invokevirtual 83, 3) := by decide +kernel
theorem dL_law_313 : decode cL_law 313 = .ok (.iload 5, 2) := by decide +kernel
theorem dL_law_315 : decode cL_law 315 = .ok (.if_icmp .eq 5, 3) := by decide +kernel
theorem dL_law_318 : decode cL_law 318 = .ok (.iconst 0, 1) := by decide +kernel
theorem dL_law_319 : decode cL_law 319 = .ok (.ireturn, 1) := by decide +kernel
theorem dL_law_320 : decode cL_law 320 = .ok (.iload 5, 2) := by decide +kernel
theorem dL_law_322 : decode cL_law 322 = .ok (.ifCond .ne 15, 3) := by decide +kernel
theorem dL_law_325 : decode cL_law 325 = .ok (.aload_n 3, 1) := by decide +kernel
theorem dL_law_326 : decode cL_law 326 = .ok (.iconst 0, 1) := by decide +kernel
theorem dL_law_327 : decode cL_law 327 = .ok (.laload, 1) := by decide +kernel
theorem dL_law_328 : decode cL_law 328 = .ok (.iload 6, 2) := by decide +kernel
theorem dL_law_330 : decode cL_law 330 = .ok (.i2l, 1) := by decide +kernel
theorem dL_law_331 : decode cL_law 331 = .ok (.lcmp, 1) := by decide +kernel
theorem dL_law_332 : decode cL_law 332 = .ok (.ifCond .eq 5, 3) := by decide +kernel
theorem dL_law_335 : decode cL_law 335 = .ok (.iconst 0, 1) := by decide +kernel
theorem dL_law_336 : decode cL_law 336 = .ok (.ireturn, 1) := by decide +kernel
theorem dL_law_337 : decode cL_law 337 = .ok (.goto 1042, 3) := by decide +kernel
theorem dL_law_340 : decode cL_law 340 = .ok (.aload_n 1, 1) := by decide +kernel
theorem dL_law_341 : decode cL_law 341 = .ok (.aload_n 0, 1) := by decide +kernel
theorem dL_law_342 : decode cL_law 342 = .ok (.iload 4, 2) := by decide +kernel
theorem dL_law_344 : decode cL_law 344 = .ok (.iconst 1, 1) := by decide +kernel
theorem dL_law_345 : decode cL_law 345 = .ok (.iadd, 1) := by decide +kernel
theorem dL_law_346 : decode cL_law 346 = .ok (.iaload, 1) := by decide +kernel
theorem dL_law_347 : decode cL_law 347 = .ok (.aload_n 3, 1) := by decide +kernel
theorem dL_law_348 : decode cL_law 348 = .ok (.invokestatic 95, 3) := by decide +kernel
theorem dL_law_351 : decode cL_law 351 = .ok (.istore 5, 2) := by decide +kernel
theorem dL_law_353 : decode cL_law 353 = .ok (.aload_n 2, 1) := by decide +kernel
theorem dL_law_354 : decode cL_law 354 = .ok (.aload_n 0, 1) := by decide +kernel
theorem dL_law_355 : decode cL_law 355 = .ok (.iload 4, 2) := by decide +kernel
theorem dL_law_357 : decode cL_law 357 = .ok (.iconst 1, 1) := by decide +kernel
theorem dL_law_358 : decode cL_law 358 = .ok (.iadd, 1) := by decide +kernel
theorem dL_law_359 : decode cL_law 359 = .ok (.iaload, 1) := by decide +kernel
theorem dL_law_360 : decode cL_law 360 = .ok (.invokevirtual 97, 3) := by decide +kernel
theorem dL_law_363 : decode cL_law 363 = .ok (.istore 6, 2) := by decide +kernel
theorem dL_law_365 : decode cL_law 365 = .ok (.aload_n 2, 1) := by decide +kernel
theorem dL_law_366 : decode cL_law 366 = .ok (.invokevirtual 83, 3) := by decide +kernel
theorem dL_law_369 : decode cL_law 369 = .ok (.iload 5, 2) := by decide +kernel
theorem dL_law_371 : decode cL_law 371 = .ok (.if_icmp .eq 5, 3) := by decide +kernel
theorem dL_law_374 : decode cL_law 374 = .ok (.iconst 0, 1) := by decide +kernel
theorem dL_law_375 : decode cL_law 375 = .ok (.ireturn, 1) := by decide +kernel
theorem dL_law_376 : decode cL_law 376 = .ok (.iload 5, 2) := by decide +kernel
theorem dL_law_378 : decode cL_law 378 = .ok (.ifCond .ne 15, 3) := by decide +kernel
theorem dL_law_381 : decode cL_law 381 = .ok (.aload_n 3, 1) := by decide +kernel
theorem dL_law_382 : decode cL_law 382 = .ok (.iconst 0, 1) := by decide +kernel
theorem dL_law_383 : decode cL_law 383 = .ok (.laload, 1) := by decide +kernel
theorem dL_law_384 : decode cL_law 384 = .ok (.iload 6, 2) := by decide +kernel
theorem dL_law_386 : decode cL_law 386 = .ok (.i2l, 1) := by decide +kernel
theorem dL_law_387 : decode cL_law 387 = .ok (.lcmp, 1) := by decide +kernel
theorem dL_law_388 : decode cL_law 388 = .ok (.ifCond .eq 5, 3) := by decide +kernel
theorem dL_law_391 : decode cL_law 391 = .ok (.iconst 0, 1) := by decide +kernel
theorem dL_law_392 : decode cL_law 392 = .ok (.ireturn, 1) := by decide +kernel
theorem dL_law_393 : decode cL_law 393 = .ok (.goto 986, 3) := by decide +kernel
theorem dL_law_396 : decode cL_law 396 = .ok (.aload_n 1, 1) := by decide +kernel
theorem dL_law_397 : decode cL_law 397 = .ok (.aload_n 0, 1) := by decide +kernel
theorem dL_law_398 : decode cL_law 398 = .ok (.iload 4, 2) := by decide +kernel
theorem dL_law_400 : decode cL_law 400 = .ok (.iconst 1, 1) := by decide +kernel
theorem dL_law_401 : decode cL_law 401 = .ok (.iadd, 1) := by decide +kernel
theorem dL_law_402 : decode cL_law 402 = .ok (.iaload, 1) := by decide +kernel
theorem dL_law_403 : decode cL_law 403 = .ok (.aload_n 0, 1) := by decide +kernel
theorem dL_law_404 : decode cL_law 404 = .ok (.iload 4, 2) := by decide +kernel
theorem dL_law_406 : decode cL_law 406 = .ok (.iconst 2, 1) := by decide +kernel
theorem dL_law_407 : decode cL_law 407 = .ok (.iadd, 1) := by decide +kernel
theorem dL_law_408 : decode cL_law 408 = .ok (.iaload, 1) := by decide +kernel
theorem dL_law_409 : decode cL_law 409 = .ok (.aload_n 3, 1) := by decide +kernel
