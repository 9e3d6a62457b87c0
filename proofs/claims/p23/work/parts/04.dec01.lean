theorem dX3_hill_36 : decode cX3_hill 36 = .ok (.new 65, 3) := by decide +kernel
theorem dX3_hill_39 : decode cX3_hill 39 = .ok (.dup, 1) := by decide +kernel
theorem dX3_hill_40 : decode cX3_hill 40 = .ok (.iload_n 1, 1) := by decide +kernel
theorem dX3_hill_41 : decode cX3_hill 41 = .ok (.iload_n 2, 1) := by decide +kernel
theorem dX3_hill_42 : decode cX3_hill 42 = .ok (.invokespecial 67, 3) := by decide +kernel
theorem dX3_hill_45 : decode cX3_hill 45 = .ok (.invokevirtual 70, 3) := by decide +kernel
theorem dX3_hill_48 : decode cX3_hill 48 = .ok (.pop, 1) := by decide +kernel
theorem dX3_hill_49 : decode cX3_hill 49 = .ok (.aload_n 0, 1) := by decide +kernel
theorem dX3_hill_50 : decode cX3_hill 50 = .ok (.getfield 28, 3) := by decide +kernel
theorem dX3_hill_53 : decode cX3_hill 53 = .ok (.invokevirtual 56, 3) := by decide +kernel
theorem dX3_hill_56 : decode cX3_hill 56 = .ok (.iconst 1, 1) := by decide +kernel
theorem dX3_hill_57 : decode cX3_hill 57 = .ok (.isub, 1) := by decide +kernel
theorem dX3_hill_58 : decode cX3_hill 58 = .ok (.ireturn, 1) := by decide +kernel
set_option maxRecDepth 20000 in
theorem ggX3_say_X3_hillAt : GoodIn wsX3_say wsX3_hillAt := goodIn_ca (goodIn_r _ [10, 11, 12, 13, 14, 15, 16, 17, 18, 19, 20, 21, 22, 23, 24, 25, 26, 27, 28, 29, 30, 31, 32, 33, 34, 35, 36, 37, 80, 81, 82, 88, 89, 90] (by decide +kernel) (by decide +kernel)) (goodIn_sub (fun _ h => List.mem_cons_of_mem _ (List.mem_append_right _ h)) (by decide +kernel))
set_option maxRecDepth 20000 in
theorem gX3_say_X3_hillAt : GoodIn wsX3_say (wsV RX3 74 RX3 yX3_hillAt wsX3_hillAt) := goodIn_app (goodIn_of _ (by decide +kernel)) ggX3_say_X3_hillAt
set_option maxRecDepth 20000 in
theorem ggX3_say_X1_isFull : GoodIn wsX3_say wsX1_isFull := goodIn_r _ [42, 43, 44, 83, 84, 85, 86, 87] (by decide +kernel) (by decide +kernel)
set_option maxRecDepth 20000 in
theorem gX3_say_X1_isFull : GoodIn wsX3_say (wsV RX3 78 RX1 yX1_isFull wsX1_isFull) := goodIn_app (goodIn_of _ (by decide +kernel)) ggX3_say_X1_isFull
set_option maxRecDepth 20000 in
theorem ggX3_say_X1_add : GoodIn wsX3_say wsX1_add := goodIn_r _ [48, 44, 43, 49, 39, 40, 41, 42, 83, 84, 85, 86, 87] (by decide +kernel) (by decide +kernel)
set_option maxRecDepth 20000 in
theorem gX3_say_X1_add : GoodIn wsX3_say (wsV RX3 84 RX1 yX1_add wsX1_add) := goodIn_app (goodIn_of _ (by decide +kernel)) ggX3_say_X1_add
set_option maxRecDepth 20000 in
theorem ggX3_say_X2_addWord : GoodIn wsX3_say wsX2_addWord := goodIn_r _ [54, 55, 56, 57, 58, 59, 60, 61, 41, 62, 44, 63, 64, 65, 66, 67, 68, 69, 70, 71, 72, 73, 74, 75, 76, 77, 78, 79, 91, 92, 93, 94, 83, 84, 85, 86, 87] (by decide +kernel) (by decide +kernel)
set_option maxRecDepth 20000 in
theorem gX3_say_X2_addWord : GoodIn wsX3_say (wsV RX3 92 RX2 yX2_addWord wsX2_addWord) := goodIn_app (goodIn_of _ (by decide +kernel)) ggX3_say_X2_addWord
theorem dX3_say_0 : decode cX3_say 0 = .ok (.aload_n 0, 1) := by decide +kernel
theorem dX3_say_1 : decode cX3_say 1 = .ok (.iload_n 1, 1) := by decide +kernel
theorem dX3_say_2 : decode cX3_say 2 = .ok (.invokevirtual 74, 3) := by decide +kernel
theorem dX3_say_5 : decode cX3_say 5 = .ok (.astore_n 3, 1) := by decide +kernel
theorem dX3_say_6 : decode cX3_say 6 = .ok (.aload_n 3, 1) := by decide +kernel
theorem dX3_say_7 : decode cX3_say 7 = .ok (.invokevirtual 78, 3) := by decide +kernel
theorem dX3_say_10 : decode cX3_say 10 = .ok (.ifCond .eq 13, 3) := by decide +kernel
theorem dX3_say_13 : decode cX3_say 13 = .ok (.new 60, 3) := by decide +kernel
theorem dX3_say_16 : decode cX3_say 16 = .ok (.dup, 1) := by decide +kernel
theorem dX3_say_17 : decode cX3_say 17 = .ok (.ldc 82, 2) := by decide +kernel
theorem dX3_say_19 : decode cX3_say 19 = .ok (.invokespecial 64, 3) := by decide +kernel
theorem dX3_say_22 : decode cX3_say 22 = .ok (.athrow, 1) := by decide +kernel
theorem dX3_say_23 : decode cX3_say 23 = .ok (.aload_n 3, 1) := by decide +kernel
theorem dX3_say_24 : decode cX3_say 24 = .ok (.iload_n 2, 1) := by decide +kernel
theorem dX3_say_25 : decode cX3_say 25 = .ok (.ifCond .eq 7, 3) := by decide +kernel
theorem dX3_say_28 : decode cX3_say 28 = .ok (.iconst 1, 1) := by decide +kernel
theorem dX3_say_29 : decode cX3_say 29 = .ok (.goto 4, 3) := by decide +kernel
theorem dX3_say_32 : decode cX3_say 32 = .ok (.iconst (-1), 1) := by decide +kernel
theorem dX3_say_33 : decode cX3_say 33 = .ok (.invokevirtual 84, 3) := by decide +kernel
theorem dX3_say_36 : decode cX3_say 36 = .ok (.aload_n 0, 1) := by decide +kernel
theorem dX3_say_37 : decode cX3_say 37 = .ok (.getfield 21, 3) := by decide +kernel
theorem dX3_say_40 : decode cX3_say 40 = .ok (.aload_n 3, 1) := by decide +kernel
theorem dX3_say_41 : decode cX3_say 41 = .ok (.aload_n 3, 1) := by decide +kernel
theorem dX3_say_42 : decode cX3_say 42 = .ok (.getfield 86, 3) := by decide +kernel
theorem dX3_say_45 : decode cX3_say 45 = .ok (.iconst 1, 1) := by decide +kernel
theorem dX3_say_46 : decode cX3_say 46 = .ok (.isub, 1) := by decide +kernel
theorem dX3_say_47 : decode cX3_say 47 = .ok (.aload_n 3, 1) := by decide +kernel
theorem dX3_say_48 : decode cX3_say 48 = .ok (.getfield 89, 3) := by decide +kernel
theorem dX3_say_51 : decode cX3_say 51 = .ok (.invokevirtual 92, 3) := by decide +kernel
theorem dX3_say_54 : decode cX3_say 54 = .ok (.aload_n 3, 1) := by decide +kernel
theorem dX3_say_55 : decode cX3_say 55 = .ok (.getfield 86, 3) := by decide +kernel
theorem dX3_say_58 : decode cX3_say 58 = .ok (.ireturn, 1) := by decide +kernel
set_option maxRecDepth 20000 in
theorem ggX3_hush_X3_hillAt : GoodIn wsX3_hush wsX3_hillAt := goodIn_ca (goodIn_r _ [8, 9, 10, 11, 12, 13, 14, 15, 16, 17, 18, 19, 20, 21, 22, 23, 24, 25, 26, 27, 28, 29, 30, 31, 32, 33, 34, 35, 78, 79, 80, 81, 82, 83] (by decide +kernel) (by decide +kernel)) (goodIn_sub (fun _ h => List.mem_cons_of_mem _ (List.mem_append_right _ h)) (by decide +kernel))
set_option maxRecDepth 20000 in
theorem gX3_hush_X3_hillAt : GoodIn wsX3_hush (wsV RX3 74 RX3 yX3_hillAt wsX3_hillAt) := goodIn_app (goodIn_of _ (by decide +kernel)) ggX3_hush_X3_hillAt
set_option maxRecDepth 20000 in
theorem ggX3_hush_X2_addWords : GoodIn wsX3_hush wsX2_addWords := goodIn_r _ [40, 41, 42, 43, 44, 39, 45, 46, 47, 48, 49, 50, 51, 52, 53, 54, 55, 56, 57, 58, 59, 60, 61, 62, 63, 64, 65, 66, 67, 68, 69, 70, 71, 72, 73, 74, 75, 76, 77, 84, 85, 86, 87] (by decide +kernel) (by decide +kernel)
set_option maxRecDepth 20000 in
theorem gX3_hush_X2_addWords : GoodIn wsX3_hush (wsV RX3 96 RX2 yX2_addWords wsX2_addWords) := goodIn_app (goodIn_of _ (by decide +kernel)) ggX3_hush_X2_addWords
theorem dX3_hush_0 : decode cX3_hush 0 = .ok (.aload_n 0, 1) := by decide +kernel
theorem dX3_hush_1 : decode cX3_hush 1 = .ok (.iload_n 1, 1) := by decide +kernel
theorem dX3_hush_2 : decode cX3_hush 2 = .ok (.invokevirtual 74, 3) := by decide +kernel
theorem dX3_hush_5 : decode cX3_hush 5 = .ok (.astore_n 2, 1) := by decide +kernel
theorem dX3_hush_6 : decode cX3_hush 6 = .ok (.aload_n 2, 1) := by decide +kernel
theorem dX3_hush_7 : decode cX3_hush 7 = .ok (.getfield 86, 3) := by decide +kernel
theorem dX3_hush_10 : decode cX3_hush 10 = .ok (.istore_n 3, 1) := by decide +kernel
theorem dX3_hush_11 : decode cX3_hush 11 = .ok (.aload_n 0, 1) := by decide +kernel
theorem dX3_hush_12 : decode cX3_hush 12 = .ok (.getfield 21, 3) := by decide +kernel
theorem dX3_hush_15 : decode cX3_hush 15 = .ok (.aload_n 2, 1) := by decide +kernel
theorem dX3_hush_16 : decode cX3_hush 16 = .ok (.aload_n 2, 1) := by decide +kernel
theorem dX3_hush_17 : decode cX3_hush 17 = .ok (.getfield 89, 3) := by decide +kernel
theorem dX3_hush_20 : decode cX3_hush 20 = .ok (.ineg, 1) := by decide +kernel
theorem dX3_hush_21 : decode cX3_hush 21 = .ok (.invokevirtual 96, 3) := by decide +kernel
theorem dX3_hush_24 : decode cX3_hush 24 = .ok (.aload_n 2, 1) := by decide +kernel
theorem dX3_hush_25 : decode cX3_hush 25 = .ok (.iconst 0, 1) := by decide +kernel
theorem dX3_hush_26 : decode cX3_hush 26 = .ok (.putfield 86, 3) := by decide +kernel
theorem dX3_hush_29 : decode cX3_hush 29 = .ok (.iload_n 3, 1) := by decide +kernel
theorem dX3_hush_30 : decode cX3_hush 30 = .ok (.ireturn, 1) := by decide +kernel
set_option maxRecDepth 20000 in
theorem ggX3_setDelay_X3_hillAt : GoodIn wsX3_setDelay wsX3_hillAt := goodIn_ca (goodIn_r _ [8, 9, 10, 11, 12, 13, 14, 15, 16, 17, 18, 19, 20, 21, 22, 23, 24, 25, 26, 27, 28, 29, 30, 31, 32, 33, 34, 35, 86, 87, 88, 89, 90, 91] (by decide +kernel) (by decide +kernel)) (goodIn_sub (fun _ h => List.mem_cons_of_mem _ (List.mem_append_left _ (List.mem_append_right _ h))) (by decide +kernel))
set_option maxRecDepth 20000 in
theorem gX3_setDelay_X3_hillAt : GoodIn wsX3_setDelay (wsV RX3 74 RX3 yX3_hillAt wsX3_hillAt) := goodIn_app (goodIn_of _ (by decide +kernel)) ggX3_setDelay_X3_hillAt
set_option maxRecDepth 20000 in
theorem ggX3_setDelay_X3_checkDelay : GoodIn wsX3_setDelay wsX3_checkDelay := goodIn_ca (goodIn_r _ [39, 40, 41, 42, 43, 86, 87, 88, 92] (by decide +kernel) (by decide +kernel)) (goodIn_sub (fun _ h => List.mem_cons_of_mem _ (List.mem_append_right _ h)) (by decide +kernel))
set_option maxRecDepth 20000 in
theorem gX3_setDelay_X3_checkDelay : GoodIn wsX3_setDelay (wsV RX3 100 RX3 yX3_checkDelay wsX3_checkDelay) := goodIn_app (goodIn_of _ (by decide +kernel)) ggX3_setDelay_X3_checkDelay
set_option maxRecDepth 20000 in
theorem ggX3_setDelay_X2_addWords : GoodIn wsX3_setDelay wsX2_addWords := goodIn_r _ [48, 49, 50, 51, 52, 47, 53, 54, 55, 56, 57, 58, 59, 60, 61, 62, 63, 64, 65, 66, 67, 68, 69, 70, 71, 72, 73, 74, 75, 76, 77, 78, 79, 80, 81, 82, 83, 84, 85, 93, 94, 95, 92] (by decide +kernel) (by decide +kernel)
set_option maxRecDepth 20000 in
theorem gX3_setDelay_X2_addWords : GoodIn wsX3_setDelay (wsV RX3 96 RX2 yX2_addWords wsX2_addWords) := goodIn_app (goodIn_of _ (by decide +kernel)) ggX3_setDelay_X2_addWords
theorem dX3_setDelay_0 : decode cX3_setDelay 0 = .ok (.aload_n 0, 1) := by decide +kernel
theorem dX3_setDelay_1 : decode cX3_setDelay 1 = .ok (.iload_n 1, 1) := by decide +kernel
theorem dX3_setDelay_2 : decode cX3_setDelay 2 = .ok (.invokevirtual 74, 3) := by decide +kernel
theorem dX3_setDelay_5 : decode cX3_setDelay 5 = .ok (.astore_n 3, 1) := by decide +kernel
theorem dX3_setDelay_6 : decode cX3_setDelay 6 = .ok (.aload_n 0, 1) := by decide +kernel
theorem dX3_setDelay_7 : decode cX3_setDelay 7 = .ok (.iload_n 2, 1) := by decide +kernel
theorem dX3_setDelay_8 : decode cX3_setDelay 8 = .ok (.invokevirtual 100, 3) := by decide +kernel
theorem dX3_setDelay_11 : decode cX3_setDelay 11 = .ok (.aload_n 3, 1) := by decide +kernel
theorem dX3_setDelay_12 : decode cX3_setDelay 12 = .ok (.getfield 103, 3) := by decide +kernel
theorem dX3_setDelay_15 : decode cX3_setDelay 15 = .ok (.istore 4, 2) := by decide +kernel
theorem dX3_setDelay_17 : decode cX3_setDelay 17 = .ok (.aload_n 0, 1) := by decide +kernel
theorem dX3_setDelay_18 : decode cX3_setDelay 18 = .ok (.getfield 21, 3) := by decide +kernel
theorem dX3_setDelay_21 : decode cX3_setDelay 21 = .ok (.aload_n 3, 1) := by decide +kernel
theorem dX3_setDelay_22 : decode cX3_setDelay 22 = .ok (.aload_n 3, 1) := by decide +kernel
theorem dX3_setDelay_23 : decode cX3_setDelay 23 = .ok (.getfield 89, 3) := by decide +kernel
theorem dX3_setDelay_26 : decode cX3_setDelay 26 = .ok (.ineg, 1) := by decide +kernel
theorem dX3_setDelay_27 : decode cX3_setDelay 27 = .ok (.invokevirtual 96, 3) := by decide +kernel
theorem dX3_setDelay_30 : decode cX3_setDelay 30 = .ok (.aload_n 3, 1) := by decide +kernel
theorem dX3_setDelay_31 : decode cX3_setDelay 31 = .ok (.iload_n 2, 1) := by decide +kernel
theorem dX3_setDelay_32 : decode cX3_setDelay 32 = .ok (.putfield 103, 3) := by decide +kernel
theorem dX3_setDelay_35 : decode cX3_setDelay 35 = .ok (.aload_n 0, 1) := by decide +kernel
theorem dX3_setDelay_36 : decode cX3_setDelay 36 = .ok (.getfield 21, 3) := by decide +kernel
theorem dX3_setDelay_39 : decode cX3_setDelay 39 = .ok (.aload_n 3, 1) := by decide +kernel
theorem dX3_setDelay_40 : decode cX3_setDelay 40 = .ok (.aload_n 3, 1) := by decide +kernel
theorem dX3_setDelay_41 : decode cX3_setDelay 41 = .ok (.getfield 89, 3) := by decide +kernel
theorem dX3_setDelay_44 : decode cX3_setDelay 44 = .ok (.invokevirtual 96, 3) := by decide +kernel
theorem dX3_setDelay_47 : decode cX3_setDelay 47 = .ok (.iload 4, 2) := by decide +kernel
theorem dX3_setDelay_49 : decode cX3_setDelay 49 = .ok (.ireturn, 1) := by decide +kernel
set_option maxRecDepth 20000 in
theorem ggX3_setStrength_X3_hillAt : GoodIn wsX3_setStrength wsX3_hillAt := goodIn_ca (goodIn_r _ [7, 8, 9, 10, 11, 12, 13, 14, 15, 16, 17, 18, 19, 20, 21, 22, 23, 24, 25, 26, 27, 28, 29, 30, 31, 32, 33, 34, 83, 84, 85, 86, 87, 88] (by decide +kernel) (by decide +kernel)) (goodIn_sub (fun _ h => List.mem_cons_of_mem _ (List.mem_append_left _ (List.mem_append_right _ h))) (by decide +kernel))
set_option maxRecDepth 20000 in
theorem gX3_setStrength_X3_hillAt : GoodIn wsX3_setStrength (wsV RX3 74 RX3 yX3_hillAt wsX3_hillAt) := goodIn_app (goodIn_of _ (by decide +kernel)) ggX3_setStrength_X3_hillAt
set_option maxRecDepth 20000 in
theorem ggX3_setStrength_X3_checkStrength : GoodIn wsX3_setStrength wsX3_checkStrength := goodIn_ca (goodIn_r _ [38, 39, 40] (by decide +kernel) (by decide +kernel)) (goodIn_sub (fun _ h => List.mem_cons_of_mem _ (List.mem_append_right _ h)) (by decide +kernel))
set_option maxRecDepth 20000 in
theorem gX3_setStrength_X3_checkStrength : GoodIn wsX3_setStrength (wsV RX3 53 RX3 yX3_checkStrength wsX3_checkStrength) := goodIn_app (goodIn_of _ (by decide +kernel)) ggX3_setStrength_X3_checkStrength
set_option maxRecDepth 20000 in
theorem ggX3_setStrength_X2_addWords : GoodIn wsX3_setStrength wsX2_addWords := goodIn_r _ [45, 46, 47, 48, 49, 44, 50, 51, 52, 53, 54, 55, 56, 57, 58, 59, 60, 61, 62, 63, 64, 65, 66, 67, 68, 69, 70, 71, 72, 73, 74, 75, 76, 77, 78, 79, 80, 81, 82, 89, 90, 91, 92] (by decide +kernel) (by decide +kernel)
set_option maxRecDepth 20000 in
theorem gX3_setStrength_X2_addWords : GoodIn wsX3_setStrength (wsV RX3 96 RX2 yX2_addWords wsX2_addWords) := goodIn_app (goodIn_of _ (by decide +kernel)) ggX3_setStrength_X2_addWords
theorem dX3_setStrength_0 : decode cX3_setStrength 0 = .ok (.aload_n 0, 1) := by decide +kernel
theorem dX3_setStrength_1 : decode cX3_setStrength 1 = .ok (.iload_n 1, 1) := by decide +kernel
theorem dX3_setStrength_2 : decode cX3_setStrength 2 = .ok (.invokevirtual 74, 3) := by decide +kernel
theorem dX3_setStrength_5 : decode cX3_setStrength 5 = .ok (.astore_n 3, 1) := by decide +kernel
theorem dX3_setStrength_6 : decode cX3_setStrength 6 = .ok (.aload_n 0, 1) := by decide +kernel
theorem dX3_setStrength_7 : decode cX3_setStrength 7 = .ok (.iload_n 2, 1) := by decide +kernel
theorem dX3_setStrength_8 : decode cX3_setStrength 8 = .ok (.invokevirtual 53, 3) := by decide +kernel
theorem dX3_setStrength_11 : decode cX3_setStrength 11 = .ok (.aload_n 3, 1) := by decide +kernel
theorem dX3_setStrength_12 : decode cX3_setStrength 12 = .ok (.getfield 89, 3) := by decide +kernel
theorem dX3_setStrength_15 : decode cX3_setStrength 15 = .ok (.istore 4, 2) := by decide +kernel
theorem dX3_setStrength_17 : decode cX3_setStrength 17 = .ok (.aload_n 0, 1) := by decide +kernel
theorem dX3_setStrength_18 : decode cX3_setStrength 18 = .ok (.getfield 21, 3) := by decide +kernel
theorem dX3_setStrength_21 : decode cX3_setStrength 21 = .ok (.aload_n 3, 1) := by decide +kernel
theorem dX3_setStrength_22 : decode cX3_setStrength 22 = .ok (.iload_n 2, 1) := by decide +kernel
theorem dX3_setStrength_23 : decode cX3_setStrength 23 = .ok (.iload 4, 2) := by decide +kernel
theorem dX3_setStrength_25 : decode cX3_setStrength 25 = .ok (.isub, 1) := by decide +kernel
theorem dX3_setStrength_26 : decode cX3_setStrength 26 = .ok (.invokevirtual 96, 3) := by decide +kernel
theorem dX3_setStrength_29 : decode cX3_setStrength 29 = .ok (.aload_n 3, 1) := by decide +kernel
theorem dX3_setStrength_30 : decode cX3_setStrength 30 = .ok (.iload_n 2, 1) := by decide +kernel
theorem dX3_setStrength_31 : decode cX3_setStrength 31 = .ok (.putfield 89, 3) := by decide +kernel
theorem dX3_setStrength_34 : decode cX3_setStrength 34 = .ok (.iload 4, 2) := by decide +kernel
theorem dX3_setStrength_36 : decode cX3_setStrength 36 = .ok (.ireturn, 1) := by decide +kernel
theorem dX3_setStorm_0 : decode cX3_setStorm 0 = .ok (.iload_n 1, 1) := by decide +kernel
theorem dX3_setStorm_1 : decode cX3_setStorm 1 = .ok (.ifCond .lt 9, 3) := by decide +kernel
theorem dX3_setStorm_4 : decode cX3_setStorm 4 = .ok (.iload_n 1, 1) := by decide +kernel
theorem dX3_setStorm_5 : decode cX3_setStorm 5 = .ok (.bipush 20, 2) := by decide +kernel
theorem dX3_setStorm_7 : decode cX3_setStorm 7 = .ok (.if_icmp .lt 13, 3) := by decide +kernel
theorem dX3_setStorm_10 : decode cX3_setStorm 10 = .ok (.new 106, 3) := by decide +kernel
theorem dX3_setStorm_13 : decode cX3_setStorm 13 = .ok (.dup, 1) := by decide +kernel
theorem dX3_setStorm_14 : decode cX3_setStorm 14 = .ok (.ldc 108, 2) := by decide +kernel
theorem dX3_setStorm_16 : decode cX3_setStorm 16 = .ok (.invokespecial 110, 3) := by decide +kernel
theorem dX3_setStorm_19 : decode cX3_setStorm 19 = .ok (.athrow, 1) := by decide +kernel
theorem dX3_setStorm_20 : decode cX3_setStorm 20 = .ok (.iload_n 2, 1) := by decide +kernel
theorem dX3_setStorm_21 : decode cX3_setStorm 21 = .ok (.bipush (-99), 2) := by decide +kernel
theorem dX3_setStorm_23 : decode cX3_setStorm 23 = .ok (.if_icmp .lt 9, 3) := by decide +kernel
theorem dX3_setStorm_26 : decode cX3_setStorm 26 = .ok (.iload_n 2, 1) := by decide +kernel
theorem dX3_setStorm_27 : decode cX3_setStorm 27 = .ok (.bipush 99, 2) := by decide +kernel
theorem dX3_setStorm_29 : decode cX3_setStorm 29 = .ok (.if_icmp .le 13, 3) := by decide +kernel
theorem dX3_setStorm_32 : decode cX3_setStorm 32 = .ok (.new 32, 3) := by decide +kernel
theorem dX3_setStorm_35 : decode cX3_setStorm 35 = .ok (.dup, 1) := by decide +kernel
theorem dX3_setStorm_36 : decode cX3_setStorm 36 = .ok (.ldc 111, 2) := by decide +kernel
theorem dX3_setStorm_38 : decode cX3_setStorm 38 = .ok (.invokespecial 36, 3) := by decide +kernel
theorem dX3_setStorm_41 : decode cX3_setStorm 41 = .ok (.athrow, 1) := by decide +kernel
theorem dX3_setStorm_42 : decode cX3_setStorm 42 = .ok (.aload_n 0, 1) := by decide +kernel
theorem dX3_setStorm_43 : decode cX3_setStorm 43 = .ok (.getfield 21, 3) := by decide +kernel
theorem dX3_setStorm_46 : decode cX3_setStorm 46 = .ok (.getfield 113, 3) := by decide +kernel
theorem dX3_setStorm_49 : decode cX3_setStorm 49 = .ok (.iload_n 1, 1) := by decide +kernel
theorem dX3_setStorm_50 : decode cX3_setStorm 50 = .ok (.iaload, 1) := by decide +kernel
theorem dX3_setStorm_51 : decode cX3_setStorm 51 = .ok (.istore_n 3, 1) := by decide +kernel
theorem dX3_setStorm_52 : decode cX3_setStorm 52 = .ok (.aload_n 0, 1) := by decide +kernel
theorem dX3_setStorm_53 : decode cX3_setStorm 53 = .ok (.getfield 21, 3) := by decide +kernel
theorem dX3_setStorm_56 : decode cX3_setStorm 56 = .ok (.getfield 113, 3) := by decide +kernel
theorem dX3_setStorm_59 : decode cX3_setStorm 59 = .ok (.iload_n 1, 1) := by decide +kernel
theorem dX3_setStorm_60 : decode cX3_setStorm 60 = .ok (.iload_n 2, 1) := by decide +kernel
theorem dX3_setStorm_61 : decode cX3_setStorm 61 = .ok (.iastore, 1) := by decide +kernel
theorem dX3_setStorm_62 : decode cX3_setStorm 62 = .ok (.iload_n 3, 1) := by decide +kernel
theorem dX3_setStorm_63 : decode cX3_setStorm 63 = .ok (.ireturn, 1) := by decide +kernel
set_option maxRecDepth 20000 in
theorem ggX3_sky_X3_checkTime : GoodIn wsX3_sky wsX3_checkTime := goodIn_ca (goodIn_r _ [6, 7, 8] (by decide +kernel) (by decide +kernel)) (goodIn_sub (fun _ h => List.mem_cons_of_mem _ (List.mem_append_right _ h)) (by decide +kernel))
set_option maxRecDepth 20000 in
theorem gX3_sky_X3_checkTime : GoodIn wsX3_sky (wsV RX3 127 RX3 yX3_checkTime wsX3_checkTime) := goodIn_app (goodIn_of _ (by decide +kernel)) ggX3_sky_X3_checkTime
set_option maxRecDepth 20000 in
theorem ggX3_sky_X2_at : GoodIn wsX3_sky wsX2_at := goodIn_r _ [13, 14, 15, 19, 20, 21] (by decide +kernel) (by decide +kernel)
set_option maxRecDepth 20000 in
theorem gX3_sky_X2_at : GoodIn wsX3_sky (wsV RX3 130 RX2 yX2_at wsX2_at) := goodIn_app (goodIn_of _ (by decide +kernel)) ggX3_sky_X2_at
theorem dX3_sky_0 : decode cX3_sky 0 = .ok (.aload_n 0, 1) := by decide +kernel
theorem dX3_sky_1 : decode cX3_sky 1 = .ok (.iload_n 1, 1) := by decide +kernel
theorem dX3_sky_2 : decode cX3_sky 2 = .ok (.invokevirtual 127, 3) := by decide +kernel
theorem dX3_sky_5 : decode cX3_sky 5 = .ok (.aload_n 0, 1) := by decide +kernel
theorem dX3_sky_6 : decode cX3_sky 6 = .ok (.getfield 21, 3) := by decide +kernel
theorem dX3_sky_9 : decode cX3_sky 9 = .ok (.iload_n 1, 1) := by decide +kernel
theorem dX3_sky_10 : decode cX3_sky 10 = .ok (.invokevirtual 130, 3) := by decide +kernel
theorem dX3_sky_13 : decode cX3_sky 13 = .ok (.ireturn, 1) := by decide +kernel
set_option maxRecDepth 20000 in
theorem ggX3_hear_X3_checkCode : GoodIn wsX3_hear wsX3_checkCode := goodIn_ca (goodIn_r _ [6, 7, 8, 9, 10, 11, 12, 13, 14, 15, 46, 47, 48, 49] (by decide +kernel) (by decide +kernel)) (goodIn_sub (fun _ h => List.mem_cons_of_mem _ (List.mem_append_left _ (List.mem_append_right _ h))) (by decide +kernel))
set_option maxRecDepth 20000 in
theorem gX3_hear_X3_checkCode : GoodIn wsX3_hear (wsV RX3 49 RX3 yX3_checkCode wsX3_checkCode) := goodIn_app (goodIn_of _ (by decide +kernel)) ggX3_hear_X3_checkCode
set_option maxRecDepth 20000 in
theorem ggX3_hear_X3_checkTime : GoodIn wsX3_hear wsX3_checkTime := goodIn_ca (goodIn_r _ [19, 20, 21] (by decide +kernel) (by decide +kernel)) (goodIn_sub (fun _ h => List.mem_cons_of_mem _ (List.mem_append_right _ h)) (by decide +kernel))
set_option maxRecDepth 20000 in
theorem gX3_hear_X3_checkTime : GoodIn wsX3_hear (wsV RX3 127 RX3 yX3_checkTime wsX3_checkTime) := goodIn_app (goodIn_of _ (by decide +kernel)) ggX3_hear_X3_checkTime
set_option maxRecDepth 20000 in
theorem ggX3_hear_X2_heard : GoodIn wsX3_hear wsX2_heard := goodIn_r _ [26, 27, 28, 29, 30, 31, 25, 32, 33, 34, 35, 36, 37, 13, 38, 39, 40, 41, 42, 43, 44, 45, 50, 51, 52, 49] (by decide +kernel) (by decide +kernel)
set_option maxRecDepth 20000 in
theorem gX3_hear_X2_heard : GoodIn wsX3_hear (wsV RX3 134 RX2 yX2_heard wsX2_heard) := goodIn_app (goodIn_of _ (by decide +kernel)) ggX3_hear_X2_heard
theorem dX3_hear_0 : decode cX3_hear 0 = .ok (.aload_n 0, 1) := by decide +kernel
theorem dX3_hear_1 : decode cX3_hear 1 = .ok (.iload_n 1, 1) := by decide +kernel
theorem dX3_hear_2 : decode cX3_hear 2 = .ok (.invokevirtual 49, 3) := by decide +kernel
theorem dX3_hear_5 : decode cX3_hear 5 = .ok (.aload_n 0, 1) := by decide +kernel
theorem dX3_hear_6 : decode cX3_hear 6 = .ok (.iload_n 2, 1) := by decide +kernel
theorem dX3_hear_7 : decode cX3_hear 7 = .ok (.invokevirtual 127, 3) := by decide +kernel
theorem dX3_hear_10 : decode cX3_hear 10 = .ok (.aload_n 0, 1) := by decide +kernel
theorem dX3_hear_11 : decode cX3_hear 11 = .ok (.getfield 21, 3) := by decide +kernel
theorem dX3_hear_14 : decode cX3_hear 14 = .ok (.iload_n 1, 1) := by decide +kernel
theorem dX3_hear_15 : decode cX3_hear 15 = .ok (.iload_n 2, 1) := by decide +kernel
theorem dX3_hear_16 : decode cX3_hear 16 = .ok (.invokevirtual 134, 3) := by decide +kernel
theorem dX3_hear_19 : decode cX3_hear 19 = .ok (.ireturn, 1) := by decide +kernel
set_option maxRecDepth 20000 in
theorem ggX3_word_X3_hillAt : GoodIn wsX3_word wsX3_hillAt := goodIn_ca (goodIn_r _ [9, 1, 2, 10, 11, 12, 13, 14, 15, 16, 17, 18, 19, 20, 21, 22, 23, 24, 25, 26, 27, 28, 29, 30, 31, 32, 33, 34, 86, 87, 88, 89, 90, 91] (by decide +kernel) (by decide +kernel)) (goodIn_sub (fun _ h => List.mem_cons_of_mem _ (List.mem_append_right _ h)) (by decide +kernel))
set_option maxRecDepth 20000 in
theorem gX3_word_X3_hillAt : GoodIn wsX3_word (wsV RX3 74 RX3 yX3_hillAt wsX3_hillAt) := goodIn_app (goodIn_of _ (by decide +kernel)) ggX3_word_X3_hillAt
set_option maxRecDepth 20000 in
theorem ggX3_word_X1_wordAt : GoodIn wsX3_word wsX1_wordAt := goodIn_r _ [39, 40, 81, 82, 83, 84, 85] (by decide +kernel) (by decide +kernel)
set_option maxRecDepth 20000 in
theorem gX3_word_X1_wordAt : GoodIn wsX3_word (wsV RX3 139 RX1 yX1_wordAt wsX1_wordAt) := goodIn_app (goodIn_of _ (by decide +kernel)) ggX3_word_X1_wordAt
set_option maxRecDepth 20000 in
theorem ggX3_word_X2_heardWord : GoodIn wsX3_word wsX2_heardWord := goodIn_r _ [45, 46, 47, 48, 49, 50, 51, 38, 52, 53, 54, 55, 56, 44, 57, 58, 59, 60, 61, 62, 63, 64, 65, 66, 67, 68, 69, 70, 71, 72, 73, 74, 75, 81, 82, 83, 84, 85, 92, 93, 94, 95] (by decide +kernel) (by decide +kernel)
set_option maxRecDepth 20000 in
theorem gX3_word_X2_heardWord : GoodIn wsX3_word (wsV RX3 142 RX2 yX2_heardWord wsX2_heardWord) := goodIn_app (goodIn_of _ (by decide +kernel)) ggX3_word_X2_heardWord
set_option maxRecDepth 20000 in
theorem ggX3_word_X1_isWrong : GoodIn wsX3_word wsX1_isWrong := goodIn_r _ [79, 80, 36, 37, 38, 39, 40, 81, 82, 83, 84, 85] (by decide +kernel) (by decide +kernel)
set_option maxRecDepth 20000 in
theorem gX3_word_X1_isWrong : GoodIn wsX3_word (wsV RX3 146 RX1 yX1_isWrong wsX1_isWrong) := goodIn_app (goodIn_of _ (by decide +kernel)) ggX3_word_X1_isWrong
theorem dX3_word_0 : decode cX3_word 0 = .ok (.aload_n 0, 1) := by decide +kernel
theorem dX3_word_1 : decode cX3_word 1 = .ok (.iload_n 1, 1) := by decide +kernel
theorem dX3_word_2 : decode cX3_word 2 = .ok (.invokevirtual 74, 3) := by decide +kernel
theorem dX3_word_5 : decode cX3_word 5 = .ok (.astore 4, 2) := by decide +kernel
theorem dX3_word_7 : decode cX3_word 7 = .ok (.iload_n 2, 1) := by decide +kernel
theorem dX3_word_8 : decode cX3_word 8 = .ok (.ifCond .lt 12, 3) := by decide +kernel
theorem dX3_word_11 : decode cX3_word 11 = .ok (.iload_n 2, 1) := by decide +kernel
theorem dX3_word_12 : decode cX3_word 12 = .ok (.aload 4, 2) := by decide +kernel
theorem dX3_word_14 : decode cX3_word 14 = .ok (.getfield 86, 3) := by decide +kernel
theorem dX3_word_17 : decode cX3_word 17 = .ok (.if_icmp .lt 13, 3) := by decide +kernel
theorem dX3_word_20 : decode cX3_word 20 = .ok (.new 106, 3) := by decide +kernel
theorem dX3_word_23 : decode cX3_word 23 = .ok (.dup, 1) := by decide +kernel
theorem dX3_word_24 : decode cX3_word 24 = .ok (.ldc 137, 2) := by decide +kernel
theorem dX3_word_26 : decode cX3_word 26 = .ok (.invokespecial 110, 3) := by decide +kernel
theorem dX3_word_29 : decode cX3_word 29 = .ok (.athrow, 1) := by decide +kernel
theorem dX3_word_30 : decode cX3_word 30 = .ok (.iload_n 3, 1) := by decide +kernel
theorem dX3_word_31 : decode cX3_word 31 = .ok (.tableswitch 68 0 2 #[25, 32, 43], 25) := by decide +kernel
theorem dX3_word_56 : decode cX3_word 56 = .ok (.aload 4, 2) := by decide +kernel
theorem dX3_word_58 : decode cX3_word 58 = .ok (.iload_n 2, 1) := by decide +kernel
theorem dX3_word_59 : decode cX3_word 59 = .ok (.invokevirtual 139, 3) := by decide +kernel
theorem dX3_word_62 : decode cX3_word 62 = .ok (.ireturn, 1) := by decide +kernel
theorem dX3_word_63 : decode cX3_word 63 = .ok (.aload_n 0, 1) := by decide +kernel
theorem dX3_word_64 : decode cX3_word 64 = .ok (.getfield 21, 3) := by decide +kernel
theorem dX3_word_67 : decode cX3_word 67 = .ok (.aload 4, 2) := by decide +kernel
theorem dX3_word_69 : decode cX3_word 69 = .ok (.iload_n 2, 1) := by decide +kernel
theorem dX3_word_70 : decode cX3_word 70 = .ok (.invokevirtual 142, 3) := by decide +kernel
theorem dX3_word_73 : decode cX3_word 73 = .ok (.ireturn, 1) := by decide +kernel
theorem dX3_word_74 : decode cX3_word 74 = .ok (.aload 4, 2) := by decide +kernel
theorem dX3_word_76 : decode cX3_word 76 = .ok (.iload_n 2, 1) := by decide +kernel
theorem dX3_word_77 : decode cX3_word 77 = .ok (.aload_n 0, 1) := by decide +kernel
theorem dX3_word_78 : decode cX3_word 78 = .ok (.getfield 21, 3) := by decide +kernel
theorem dX3_word_81 : decode cX3_word 81 = .ok (.aload 4, 2) := by decide +kernel
theorem dX3_word_83 : decode cX3_word 83 = .ok (.iload_n 2, 1) := by decide +kernel
theorem dX3_word_84 : decode cX3_word 84 = .ok (.invokevirtual 142, 3) := by decide +kernel
theorem dX3_word_87 : decode cX3_word 87 = .ok (.invokevirtual 146, 3) := by decide +kernel
theorem dX3_word_90 : decode cX3_word 90 = .ok (.ifCond .eq 7, 3) := by decide +kernel
theorem dX3_word_93 : decode cX3_word 93 = .ok (.iconst 1, 1) := by decide +kernel
theorem dX3_word_94 : decode cX3_word 94 = .ok (.goto 4, 3) := by decide +kernel
theorem dX3_word_97 : decode cX3_word 97 = .ok (.iconst 0, 1) := by decide +kernel
theorem dX3_word_98 : decode cX3_word 98 = .ok (.ireturn, 1) := by decide +kernel
theorem dX3_word_99 : decode cX3_word 99 = .ok (.new 106, 3) := by decide +kernel
theorem dX3_word_102 : decode cX3_word 102 = .ok (.dup, 1) := by decide +kernel
theorem dX3_word_103 : decode cX3_word 103 = .ok (.ldc 150, 2) := by decide +kernel
theorem dX3_word_105 : decode cX3_word 105 = .ok (.invokespecial 110, 3) := by decide +kernel
theorem dX3_word_108 : decode cX3_word 108 = .ok (.athrow, 1) := by decide +kernel
set_option maxRecDepth 20000 in
theorem ggX3_about_X3_hillAt : GoodIn wsX3_about wsX3_hillAt := goodIn_ca (goodIn_r _ [14, 1, 2, 15, 16, 17, 18, 19, 20, 21, 22, 23, 24, 25, 26, 27, 28, 29, 30, 31, 32, 33, 34, 35, 36, 37, 38, 39, 109, 110, 111, 113, 114, 115] (by decide +kernel) (by decide +kernel)) (goodIn_sub (fun _ h => List.mem_cons_of_mem _ (List.mem_append_right _ h)) (by decide +kernel))
set_option maxRecDepth 20000 in
theorem gX3_about_X3_hillAt : GoodIn wsX3_about (wsV RX3 74 RX3 yX3_hillAt wsX3_hillAt) := goodIn_app (goodIn_of _ (by decide +kernel)) ggX3_about_X3_hillAt
set_option maxRecDepth 20000 in
theorem ggX3_about_X2_wrongWords : GoodIn wsX3_about wsX2_wrongWords := goodIn_r _ [44, 45, 46, 47, 48, 43, 49, 50, 51, 52, 53, 54, 55, 56, 57, 58, 59, 60, 61, 62, 63, 64, 65, 66, 67, 68, 69, 70, 71, 72, 73, 74, 75, 76, 77, 78, 79, 80, 81, 82, 83, 84, 85, 86, 87, 88, 89, 104, 105, 106, 107, 108, 116, 117, 118, 112] (by decide +kernel) (by decide +kernel)
set_option maxRecDepth 20000 in
theorem gX3_about_X2_wrongWords : GoodIn wsX3_about (wsV RX3 155 RX2 yX2_wrongWords wsX2_wrongWords) := goodIn_app (goodIn_of _ (by decide +kernel)) ggX3_about_X2_wrongWords
set_option maxRecDepth 20000 in
theorem ggX3_about_X1_end : GoodIn wsX3_about wsX1_end := goodIn_r _ [93, 94, 95, 54, 55, 56, 57, 58, 104, 105, 106, 107, 108] (by decide +kernel) (by decide +kernel)
set_option maxRecDepth 20000 in
theorem gX3_about_X1_end : GoodIn wsX3_about (wsV RX3 159 RX1 yX1_end wsX1_end) := goodIn_app (goodIn_of _ (by decide +kernel)) ggX3_about_X1_end
set_option maxRecDepth 20000 in
theorem ggX3_about_X2_faintest : GoodIn wsX3_about wsX2_faintest := goodIn_r _ [99, 45, 100, 101, 102, 103, 46, 47, 48, 43, 49, 50, 51, 52, 53, 54, 55, 56, 57, 58, 59, 60, 61, 62, 63, 64, 65, 66, 67, 68, 69, 70, 71, 72, 73, 74, 75, 76, 77, 78, 79, 80, 104, 105, 106, 107, 108, 116, 117, 118, 112] (by decide +kernel) (by decide +kernel)
set_option maxRecDepth 20000 in
theorem gX3_about_X2_faintest : GoodIn wsX3_about (wsV RX3 162 RX2 yX2_faintest wsX2_faintest) := goodIn_app (goodIn_of _ (by decide +kernel)) ggX3_about_X2_faintest
theorem dX3_about_0 : decode cX3_about 0 = .ok (.aload_n 0, 1) := by decide +kernel
theorem dX3_about_1 : decode cX3_about 1 = .ok (.iload_n 1, 1) := by decide +kernel
theorem dX3_about_2 : decode cX3_about 2 = .ok (.invokevirtual 74, 3) := by decide +kernel
theorem dX3_about_5 : decode cX3_about 5 = .ok (.astore_n 3, 1) := by decide +kernel
theorem dX3_about_6 : decode cX3_about 6 = .ok (.iload_n 2, 1) := by decide +kernel
theorem dX3_about_7 : decode cX3_about 7 = .ok (.tableswitch 91 0 6 #[41, 46, 51, 56, 61, 70, 82], 41) := by decide +kernel
theorem dX3_about_48 : decode cX3_about 48 = .ok (.aload_n 3, 1) := by decide +kernel
theorem dX3_about_49 : decode cX3_about 49 = .ok (.getfield 152, 3) := by decide +kernel
theorem dX3_about_52 : decode cX3_about 52 = .ok (.ireturn, 1) := by decide +kernel
theorem dX3_about_53 : decode cX3_about 53 = .ok (.aload_n 3, 1) := by decide +kernel
theorem dX3_about_54 : decode cX3_about 54 = .ok (.getfield 89, 3) := by decide +kernel
theorem dX3_about_57 : decode cX3_about 57 = .ok (.ireturn, 1) := by decide +kernel
theorem dX3_about_58 : decode cX3_about 58 = .ok (.aload_n 3, 1) := by decide +kernel
theorem dX3_about_59 : decode cX3_about 59 = .ok (.getfield 103, 3) := by decide +kernel
theorem dX3_about_62 : decode cX3_about 62 = .ok (.ireturn, 1) := by decide +kernel
theorem dX3_about_63 : decode cX3_about 63 = .ok (.aload_n 3, 1) := by decide +kernel
theorem dX3_about_64 : decode cX3_about 64 = .ok (.getfield 86, 3) := by decide +kernel
theorem dX3_about_67 : decode cX3_about 67 = .ok (.ireturn, 1) := by decide +kernel
theorem dX3_about_68 : decode cX3_about 68 = .ok (.aload_n 0, 1) := by decide +kernel
theorem dX3_about_69 : decode cX3_about 69 = .ok (.getfield 21, 3) := by decide +kernel
theorem dX3_about_72 : decode cX3_about 72 = .ok (.aload_n 3, 1) := by decide +kernel
theorem dX3_about_73 : decode cX3_about 73 = .ok (.invokevirtual 155, 3) := by decide +kernel
theorem dX3_about_76 : decode cX3_about 76 = .ok (.ireturn, 1) := by decide +kernel
theorem dX3_about_77 : decode cX3_about 77 = .ok (.aload_n 3, 1) := by decide +kernel
theorem dX3_about_78 : decode cX3_about 78 = .ok (.aload_n 0, 1) := by decide +kernel
theorem dX3_about_79 : decode cX3_about 79 = .ok (.getfield 12, 3) := by decide +kernel
theorem dX3_about_82 : decode cX3_about 82 = .ok (.getfield 39, 3) := by decide +kernel
theorem dX3_about_85 : decode cX3_about 85 = .ok (.invokevirtual 159, 3) := by decide +kernel
theorem dX3_about_88 : decode cX3_about 88 = .ok (.ireturn, 1) := by decide +kernel
theorem dX3_about_89 : decode cX3_about 89 = .ok (.aload_n 0, 1) := by decide +kernel
theorem dX3_about_90 : decode cX3_about 90 = .ok (.getfield 21, 3) := by decide +kernel
theorem dX3_about_93 : decode cX3_about 93 = .ok (.aload_n 3, 1) := by decide +kernel
theorem dX3_about_94 : decode cX3_about 94 = .ok (.invokevirtual 162, 3) := by decide +kernel
theorem dX3_about_97 : decode cX3_about 97 = .ok (.ireturn, 1) := by decide +kernel
theorem dX3_about_98 : decode cX3_about 98 = .ok (.new 106, 3) := by decide +kernel
theorem dX3_about_101 : decode cX3_about 101 = .ok (.dup, 1) := by decide +kernel
theorem dX3_about_102 : decode cX3_about 102 = .ok (.ldc 165, 2) := by decide +kernel
theorem dX3_about_104 : decode cX3_about 104 = .ok (.invokespecial 110, 3) := by decide +kernel
theorem dX3_about_107 : decode cX3_about 107 = .ok (.athrow, 1) := by decide +kernel
set_option maxRecDepth 20000 in
theorem ggX3_count_Jx4a65c_size_8abf5 : GoodIn wsX3_count wsJx4a65c_size_8abf5 := goodIn_r _ [11, 12, 126, 127, 128] (by decide +kernel) (by decide +kernel)
set_option maxRecDepth 20000 in
theorem gX3_count_Jx4a65c_size_8abf5 : GoodIn wsX3_count (wsV RX3 56 RJx4a65c yJx4a65c_size_8abf5 wsJx4a65c_size_8abf5) := goodIn_app (goodIn_of _ (by decide +kernel)) ggX3_count_Jx4a65c_size_8abf5
set_option maxRecDepth 20000 in
theorem ggX3_count_X3_allWords : GoodIn wsX3_count wsX3_allWords := goodIn_r _ [17, 5, 18, 19, 7, 8, 9, 10, 11, 12, 20, 21, 22, 23, 24, 25, 26, 27, 28, 29, 30, 31, 32, 33, 34, 35, 36, 122, 123, 124, 129, 130, 131, 132, 133, 126, 127, 128] (by decide +kernel) (by decide +kernel)
set_option maxRecDepth 20000 in
theorem gX3_count_X3_allWords : GoodIn wsX3_count (wsV RX3 167 RX3 yX3_allWords wsX3_allWords) := goodIn_app (goodIn_of _ (by decide +kernel)) ggX3_count_X3_allWords
set_option maxRecDepth 20000 in
theorem ggX3_count_X3_allWrongWords : GoodIn wsX3_count wsX3_allWrongWords := goodIn_r _ [40, 5, 6, 18, 7, 8, 9, 10, 11, 12, 20, 21, 22, 23, 24, 25, 26, 27, 28, 29, 30, 31, 32, 33, 34, 35, 36, 41, 42, 43, 44, 45, 46, 47, 48, 49, 50, 51, 52, 53, 54, 55, 56, 57, 58, 59, 60, 61, 62, 63, 64, 65, 66, 67, 68, 69, 70, 71, 72, 73, 74, 75, 76, 77, 78, 79, 80, 81, 82, 83, 84, 85, 86, 87, 88, 89, 90, 122, 123, 124, 126, 127, 128, 129, 130, 131, 132, 133, 134, 135, 136, 125] (by decide +kernel) (by decide +kernel)
set_option maxRecDepth 20000 in
theorem gX3_count_X3_allWrongWords : GoodIn wsX3_count (wsV RX3 170 RX3 yX3_allWrongWords wsX3_allWrongWords) := goodIn_app (goodIn_of _ (by decide +kernel)) ggX3_count_X3_allWrongWords
set_option maxRecDepth 20000 in
theorem ggX3_count_X3_endOfAll : GoodIn wsX3_count wsX3_endOfAll := goodIn_r _ [94, 5, 18, 3, 4, 95, 96, 97, 98, 7, 8, 9, 10, 11, 12, 20, 21, 22, 23, 24, 25, 26, 27, 28, 29, 30, 31, 32, 33, 34, 35, 36, 99, 100, 101, 57, 102, 103, 104, 55, 56, 58, 59, 122, 123, 124, 125, 126, 127, 128, 129, 130, 131, 132, 133] (by decide +kernel) (by decide +kernel)
set_option maxRecDepth 20000 in
theorem gX3_count_X3_endOfAll : GoodIn wsX3_count (wsV RX3 173 RX3 yX3_endOfAll wsX3_endOfAll) := goodIn_app (goodIn_of _ (by decide +kernel)) ggX3_count_X3_endOfAll
set_option maxRecDepth 20000 in
theorem ggX3_count_X2_highest : GoodIn wsX3_count wsX2_highest := goodIn_r _ [108, 109, 110, 97, 111, 112, 96, 98, 64, 65, 66, 44, 67, 68, 69, 134, 135, 136] (by decide +kernel) (by decide +kernel)
set_option maxRecDepth 20000 in
theorem gX3_count_X2_highest : GoodIn wsX3_count (wsV RX3 176 RX2 yX2_highest wsX2_highest) := goodIn_app (goodIn_of _ (by decide +kernel)) ggX3_count_X2_highest
set_option maxRecDepth 20000 in
theorem ggX3_count_X3_freeCodes : GoodIn wsX3_count wsX3_freeCodes := goodIn_r _ [116, 3, 4, 117, 118, 119, 16, 120, 5, 18, 121, 7, 8, 9, 10, 11, 12, 20, 21, 22, 23, 24, 25, 26, 27, 28, 29, 30, 31, 32, 33, 34, 35, 36, 122, 123, 124, 125, 129, 130, 131, 132, 133, 126, 127, 128] (by decide +kernel) (by decide +kernel)
set_option maxRecDepth 20000 in
theorem gX3_count_X3_freeCodes : GoodIn wsX3_count (wsV RX3 179 RX3 yX3_freeCodes wsX3_freeCodes) := goodIn_app (goodIn_of _ (by decide +kernel)) ggX3_count_X3_freeCodes
theorem dX3_count_0 : decode cX3_count 0 = .ok (.iload_n 1, 1) := by decide +kernel
theorem dX3_count_1 : decode cX3_count 1 = .ok (.tableswitch 91 0 6 #[43, 51, 59, 64, 69, 74, 86], 43) := by decide +kernel
theorem dX3_count_44 : decode cX3_count 44 = .ok (.aload_n 0, 1) := by decide +kernel
theorem dX3_count_45 : decode cX3_count 45 = .ok (.getfield 12, 3) := by decide +kernel
theorem dX3_count_48 : decode cX3_count 48 = .ok (.getfield 39, 3) := by decide +kernel
theorem dX3_count_51 : decode cX3_count 51 = .ok (.ireturn, 1) := by decide +kernel
theorem dX3_count_52 : decode cX3_count 52 = .ok (.aload_n 0, 1) := by decide +kernel
theorem dX3_count_53 : decode cX3_count 53 = .ok (.getfield 28, 3) := by decide +kernel
theorem dX3_count_56 : decode cX3_count 56 = .ok (.invokevirtual 56, 3) := by decide +kernel
theorem dX3_count_59 : decode cX3_count 59 = .ok (.ireturn, 1) := by decide +kernel
theorem dX3_count_60 : decode cX3_count 60 = .ok (.aload_n 0, 1) := by decide +kernel
theorem dX3_count_61 : decode cX3_count 61 = .ok (.invokevirtual 167, 3) := by decide +kernel
theorem dX3_count_64 : decode cX3_count 64 = .ok (.ireturn, 1) := by decide +kernel
theorem dX3_count_65 : decode cX3_count 65 = .ok (.aload_n 0, 1) := by decide +kernel
theorem dX3_count_66 : decode cX3_count 66 = .ok (.invokevirtual 170, 3) := by decide +kernel
theorem dX3_count_69 : decode cX3_count 69 = .ok (.ireturn, 1) := by decide +kernel
theorem dX3_count_70 : decode cX3_count 70 = .ok (.aload_n 0, 1) := by decide +kernel
theorem dX3_count_71 : decode cX3_count 71 = .ok (.invokevirtual 173, 3) := by decide +kernel
theorem dX3_count_74 : decode cX3_count 74 = .ok (.ireturn, 1) := by decide +kernel
theorem dX3_count_75 : decode cX3_count 75 = .ok (.aload_n 0, 1) := by decide +kernel
theorem dX3_count_76 : decode cX3_count 76 = .ok (.getfield 21, 3) := by decide +kernel
theorem dX3_count_79 : decode cX3_count 79 = .ok (.aload_n 0, 1) := by decide +kernel
theorem dX3_count_80 : decode cX3_count 80 = .ok (.invokevirtual 173, 3) := by decide +kernel
theorem dX3_count_83 : decode cX3_count 83 = .ok (.invokevirtual 176, 3) := by decide +kernel
theorem dX3_count_86 : decode cX3_count 86 = .ok (.ireturn, 1) := by decide +kernel
theorem dX3_count_87 : decode cX3_count 87 = .ok (.aload_n 0, 1) := by decide +kernel
theorem dX3_count_88 : decode cX3_count 88 = .ok (.invokevirtual 179, 3) := by decide +kernel
theorem dX3_count_91 : decode cX3_count 91 = .ok (.ireturn, 1) := by decide +kernel
theorem dX3_count_92 : decode cX3_count 92 = .ok (.new 106, 3) := by decide +kernel
theorem dX3_count_95 : decode cX3_count 95 = .ok (.dup, 1) := by decide +kernel
theorem dX3_count_96 : decode cX3_count 96 = .ok (.ldc 165, 2) := by decide +kernel
theorem dX3_count_98 : decode cX3_count 98 = .ok (.invokespecial 110, 3) := by decide +kernel
theorem dX3_count_101 : decode cX3_count 101 = .ok (.athrow, 1) := by decide +kernel
set_option maxRecDepth 20000 in
theorem ggX3_alike_X3_checkCode : GoodIn wsX3_alike wsX3_checkCode := goodIn_ca (goodIn_r _ [8, 9, 10, 3, 11, 12, 13, 14, 15, 16, 36, 37, 38, 39] (by decide +kernel) (by decide +kernel)) (goodIn_sub (fun _ h => List.mem_cons_of_mem _ (List.mem_append_right _ h)) (by decide +kernel))
set_option maxRecDepth 20000 in
theorem gX3_alike_X3_checkCode : GoodIn wsX3_alike (wsV RX3 49 RX3 yX3_checkCode wsX3_checkCode) := goodIn_app (goodIn_of _ (by decide +kernel)) ggX3_alike_X3_checkCode
set_option maxRecDepth 20000 in
theorem ggX3_alike_X0_has : GoodIn wsX3_alike wsX0_has := goodIn_r _ [15, 16, 39] (by decide +kernel) (by decide +kernel)
set_option maxRecDepth 20000 in
theorem gX3_alike_X0_has : GoodIn wsX3_alike (wsV RX3 117 RX0 yX0_has wsX0_has) := goodIn_app (goodIn_of _ (by decide +kernel)) ggX3_alike_X0_has
set_option maxRecDepth 20000 in
theorem ggX3_alike_X0_likeness : GoodIn wsX3_alike wsX0_likeness := goodIn_r _ [20, 16, 21, 22, 23, 24, 25, 26, 27, 14, 28, 29, 30, 31, 32, 33, 34, 35, 39] (by decide +kernel) (by decide +kernel)
set_option maxRecDepth 20000 in
theorem gX3_alike_X0_likeness : GoodIn wsX3_alike (wsV RX3 184 RX0 yX0_likeness wsX0_likeness) := goodIn_app (goodIn_of _ (by decide +kernel)) ggX3_alike_X0_likeness
theorem dX3_alike_0 : decode cX3_alike 0 = .ok (.aload_n 0, 1) := by decide +kernel
theorem dX3_alike_1 : decode cX3_alike 1 = .ok (.iload_n 1, 1) := by decide +kernel
theorem dX3_alike_2 : decode cX3_alike 2 = .ok (.invokevirtual 49, 3) := by decide +kernel
theorem dX3_alike_5 : decode cX3_alike 5 = .ok (.aload_n 0, 1) := by decide +kernel
theorem dX3_alike_6 : decode cX3_alike 6 = .ok (.iload_n 2, 1) := by decide +kernel
theorem dX3_alike_7 : decode cX3_alike 7 = .ok (.invokevirtual 49, 3) := by decide +kernel
theorem dX3_alike_10 : decode cX3_alike 10 = .ok (.aload_n 0, 1) := by decide +kernel
theorem dX3_alike_11 : decode cX3_alike 11 = .ok (.getfield 12, 3) := by decide +kernel
theorem dX3_alike_14 : decode cX3_alike 14 = .ok (.iload_n 3, 1) := by decide +kernel
theorem dX3_alike_15 : decode cX3_alike 15 = .ok (.invokevirtual 117, 3) := by decide +kernel
theorem dX3_alike_18 : decode cX3_alike 18 = .ok (.ifCond .ne 13, 3) := by decide +kernel
theorem dX3_alike_21 : decode cX3_alike 21 = .ok (.new 32, 3) := by decide +kernel
theorem dX3_alike_24 : decode cX3_alike 24 = .ok (.dup, 1) := by decide +kernel
theorem dX3_alike_25 : decode cX3_alike 25 = .ok (.ldc 182, 2) := by decide +kernel
theorem dX3_alike_27 : decode cX3_alike 27 = .ok (.invokespecial 36, 3) := by decide +kernel
theorem dX3_alike_30 : decode cX3_alike 30 = .ok (.athrow, 1) := by decide +kernel
theorem dX3_alike_31 : decode cX3_alike 31 = .ok (.aload_n 0, 1) := by decide +kernel
theorem dX3_alike_32 : decode cX3_alike 32 = .ok (.getfield 12, 3) := by decide +kernel
theorem dX3_alike_35 : decode cX3_alike 35 = .ok (.iload_n 1, 1) := by decide +kernel
theorem dX3_alike_36 : decode cX3_alike 36 = .ok (.iload_n 2, 1) := by decide +kernel
theorem dX3_alike_37 : decode cX3_alike 37 = .ok (.iload_n 3, 1) := by decide +kernel
theorem dX3_alike_38 : decode cX3_alike 38 = .ok (.invokevirtual 184, 3) := by decide +kernel
theorem dX3_alike_41 : decode cX3_alike 41 = .ok (.ireturn, 1) := by decide +kernel
set_option maxRecDepth 20000 in
theorem ggX3_shift_X3_checkCode : GoodIn wsX3_shift wsX3_checkCode := goodIn_ca (goodIn_r _ [7, 8, 9, 1, 10, 11, 12, 13, 14, 15, 35, 36, 37, 38] (by decide +kernel) (by decide +kernel)) (goodIn_sub (fun _ h => List.mem_cons_of_mem _ (List.mem_append_right _ h)) (by decide +kernel))
set_option maxRecDepth 20000 in
theorem gX3_shift_X3_checkCode : GoodIn wsX3_shift (wsV RX3 49 RX3 yX3_checkCode wsX3_checkCode) := goodIn_app (goodIn_of _ (by decide +kernel)) ggX3_shift_X3_checkCode
set_option maxRecDepth 20000 in
theorem ggX3_shift_X0_likeness : GoodIn wsX3_shift wsX0_likeness := goodIn_r _ [19, 15, 20, 21, 22, 23, 24, 25, 26, 13, 27, 28, 29, 30, 31, 32, 33, 34, 38] (by decide +kernel) (by decide +kernel)
set_option maxRecDepth 20000 in
theorem gX3_shift_X0_likeness : GoodIn wsX3_shift (wsV RX3 184 RX0 yX0_likeness wsX0_likeness) := goodIn_app (goodIn_of _ (by decide +kernel)) ggX3_shift_X0_likeness
theorem dX3_shift_0 : decode cX3_shift 0 = .ok (.aload_n 0, 1) := by decide +kernel
theorem dX3_shift_1 : decode cX3_shift 1 = .ok (.iload_n 1, 1) := by decide +kernel
theorem dX3_shift_2 : decode cX3_shift 2 = .ok (.invokevirtual 49, 3) := by decide +kernel
theorem dX3_shift_5 : decode cX3_shift 5 = .ok (.aload_n 0, 1) := by decide +kernel
theorem dX3_shift_6 : decode cX3_shift 6 = .ok (.iload_n 2, 1) := by decide +kernel
theorem dX3_shift_7 : decode cX3_shift 7 = .ok (.invokevirtual 49, 3) := by decide +kernel
theorem dX3_shift_10 : decode cX3_shift 10 = .ok (.iconst 0, 1) := by decide +kernel
theorem dX3_shift_11 : decode cX3_shift 11 = .ok (.istore_n 3, 1) := by decide +kernel
theorem dX3_shift_12 : decode cX3_shift 12 = .ok (.aload_n 0, 1) := by decide +kernel
theorem dX3_shift_13 : decode cX3_shift 13 = .ok (.getfield 12, 3) := by decide +kernel
theorem dX3_shift_16 : decode cX3_shift 16 = .ok (.iload_n 1, 1) := by decide +kernel
theorem dX3_shift_17 : decode cX3_shift 17 = .ok (.iload_n 2, 1) := by decide +kernel
theorem dX3_shift_18 : decode cX3_shift 18 = .ok (.iconst 0, 1) := by decide +kernel
theorem dX3_shift_19 : decode cX3_shift 19 = .ok (.invokevirtual 184, 3) := by decide +kernel
theorem dX3_shift_22 : decode cX3_shift 22 = .ok (.istore 4, 2) := by decide +kernel
theorem dX3_shift_24 : decode cX3_shift 24 = .ok (.iconst 1, 1) := by decide +kernel
theorem dX3_shift_25 : decode cX3_shift 25 = .ok (.istore 5, 2) := by decide +kernel
theorem dX3_shift_27 : decode cX3_shift 27 = .ok (.iload 5, 2) := by decide +kernel
theorem dX3_shift_29 : decode cX3_shift 29 = .ok (.aload_n 0, 1) := by decide +kernel
theorem dX3_shift_30 : decode cX3_shift 30 = .ok (.getfield 12, 3) := by decide +kernel
theorem dX3_shift_33 : decode cX3_shift 33 = .ok (.getfield 39, 3) := by decide +kernel
theorem dX3_shift_36 : decode cX3_shift 36 = .ok (.if_icmp .ge 36, 3) := by decide +kernel
theorem dX3_shift_39 : decode cX3_shift 39 = .ok (.aload_n 0, 1) := by decide +kernel
theorem dX3_shift_40 : decode cX3_shift 40 = .ok (.getfield 12, 3) := by decide +kernel
theorem dX3_shift_43 : decode cX3_shift 43 = .ok (.iload_n 1, 1) := by decide +kernel
theorem dX3_shift_44 : decode cX3_shift 44 = .ok (.iload_n 2, 1) := by decide +kernel
theorem dX3_shift_45 : decode cX3_shift 45 = .ok (.iload 5, 2) := by decide +kernel
theorem dX3_shift_47 : decode cX3_shift 47 = .ok (.invokevirtual 184, 3) := by decide +kernel
theorem dX3_shift_50 : decode cX3_shift 50 = .ok (.istore 6, 2) := by decide +kernel
theorem dX3_shift_52 : decode cX3_shift 52 = .ok (.iload 6, 2) := by decide +kernel
theorem dX3_shift_54 : decode cX3_shift 54 = .ok (.iload 4, 2) := by decide +kernel
theorem dX3_shift_56 : decode cX3_shift 56 = .ok (.if_icmp .le 10, 3) := by decide +kernel
theorem dX3_shift_59 : decode cX3_shift 59 = .ok (.iload 6, 2) := by decide +kernel
theorem dX3_shift_61 : decode cX3_shift 61 = .ok (.istore 4, 2) := by decide +kernel
theorem dX3_shift_63 : decode cX3_shift 63 = .ok (.iload 5, 2) := by decide +kernel
theorem dX3_shift_65 : decode cX3_shift 65 = .ok (.istore_n 3, 1) := by decide +kernel
theorem dX3_shift_66 : decode cX3_shift 66 = .ok (.iinc 5 1, 3) := by decide +kernel
theorem dX3_shift_69 : decode cX3_shift 69 = .ok (.goto (-42), 3) := by decide +kernel
theorem dX3_shift_72 : decode cX3_shift 72 = .ok (.iload_n 3, 1) := by decide +kernel
theorem dX3_shift_73 : decode cX3_shift 73 = .ok (.ireturn, 1) := by decide +kernel
set_option maxRecDepth 20000 in
theorem ggX3_advise_X3_checkDelay : GoodIn wsX3_advise wsX3_checkDelay := goodIn_ca (goodIn_r _ [7, 8, 9, 1, 2, 67, 68, 69, 70] (by decide +kernel) (by decide +kernel)) (goodIn_sub (fun _ h => List.mem_cons_of_mem _ (List.mem_append_right _ h)) (by decide +kernel))
set_option maxRecDepth 20000 in
theorem gX3_advise_X3_checkDelay : GoodIn wsX3_advise (wsV RX3 100 RX3 yX3_checkDelay wsX3_checkDelay) := goodIn_app (goodIn_of _ (by decide +kernel)) ggX3_advise_X3_checkDelay
set_option maxRecDepth 20000 in
theorem ggX3_advise_X3_isTaken : GoodIn wsX3_advise wsX3_isTaken := goodIn_r _ [13, 14, 15, 16, 17, 18, 19, 20, 21, 22, 23, 24, 25, 26, 27, 28, 29, 30, 31, 32, 33, 34, 35, 36, 37, 38, 39, 67, 68, 69, 71, 72, 73, 74, 75, 76, 77, 78] (by decide +kernel) (by decide +kernel)
set_option maxRecDepth 20000 in
theorem gX3_advise_X3_isTaken : GoodIn wsX3_advise (wsV RX3 188 RX3 yX3_isTaken wsX3_isTaken) := goodIn_app (goodIn_of _ (by decide +kernel)) ggX3_advise_X3_isTaken
set_option maxRecDepth 20000 in
theorem ggX3_advise_X3_likenessToAll : GoodIn wsX3_advise wsX3_likenessToAll := goodIn_r _ [43, 14, 15, 44, 1, 2, 45, 16, 17, 18, 19, 20, 21, 22, 23, 24, 25, 26, 27, 28, 29, 30, 31, 32, 33, 34, 35, 36, 37, 38, 39, 46, 47, 48, 49, 50, 51, 52, 53, 54, 55, 56, 57, 58, 59, 60, 61, 62, 63, 64, 65, 66, 67, 68, 69, 71, 72, 73, 74, 75, 70, 76, 77, 78] (by decide +kernel) (by decide +kernel)
set_option maxRecDepth 20000 in
theorem gX3_advise_X3_likenessToAll : GoodIn wsX3_advise (wsV RX3 191 RX3 yX3_likenessToAll wsX3_likenessToAll) := goodIn_app (goodIn_of _ (by decide +kernel)) ggX3_advise_X3_likenessToAll
theorem dX3_advise_0 : decode cX3_advise 0 = .ok (.aload_n 0, 1) := by decide +kernel
theorem dX3_advise_1 : decode cX3_advise 1 = .ok (.iload_n 1, 1) := by decide +kernel
theorem dX3_advise_2 : decode cX3_advise 2 = .ok (.invokevirtual 100, 3) := by decide +kernel
theorem dX3_advise_5 : decode cX3_advise 5 = .ok (.iconst (-1), 1) := by decide +kernel
theorem dX3_advise_6 : decode cX3_advise 6 = .ok (.istore_n 2, 1) := by decide +kernel
theorem dX3_advise_7 : decode cX3_advise 7 = .ok (.iconst 0, 1) := by decide +kernel
theorem dX3_advise_8 : decode cX3_advise 8 = .ok (.istore_n 3, 1) := by decide +kernel
theorem dX3_advise_9 : decode cX3_advise 9 = .ok (.iconst 0, 1) := by decide +kernel
theorem dX3_advise_10 : decode cX3_advise 10 = .ok (.istore 4, 2) := by decide +kernel
theorem dX3_advise_12 : decode cX3_advise 12 = .ok (.iload 4, 2) := by decide +kernel
theorem dX3_advise_14 : decode cX3_advise 14 = .ok (.aload_n 0, 1) := by decide +kernel
theorem dX3_advise_15 : decode cX3_advise 15 = .ok (.getfield 12, 3) := by decide +kernel
theorem dX3_advise_18 : decode cX3_advise 18 = .ok (.getfield 39, 3) := by decide +kernel
theorem dX3_advise_21 : decode cX3_advise 21 = .ok (.if_icmp .ge 46, 3) := by decide +kernel
theorem dX3_advise_24 : decode cX3_advise 24 = .ok (.aload_n 0, 1) := by decide +kernel
theorem dX3_advise_25 : decode cX3_advise 25 = .ok (.iload 4, 2) := by decide +kernel
theorem dX3_advise_27 : decode cX3_advise 27 = .ok (.invokevirtual 188, 3) := by decide +kernel
theorem dX3_advise_30 : decode cX3_advise 30 = .ok (.ifCond .eq 6, 3) := by decide +kernel
theorem dX3_advise_33 : decode cX3_advise 33 = .ok (.goto 28, 3) := by decide +kernel
theorem dX3_advise_36 : decode cX3_advise 36 = .ok (.aload_n 0, 1) := by decide +kernel
theorem dX3_advise_37 : decode cX3_advise 37 = .ok (.iload 4, 2) := by decide +kernel
theorem dX3_advise_39 : decode cX3_advise 39 = .ok (.iload_n 1, 1) := by decide +kernel
theorem dX3_advise_40 : decode cX3_advise 40 = .ok (.invokevirtual 191, 3) := by decide +kernel
theorem dX3_advise_43 : decode cX3_advise 43 = .ok (.istore 5, 2) := by decide +kernel
theorem dX3_advise_45 : decode cX3_advise 45 = .ok (.iload_n 2, 1) := by decide +kernel
theorem dX3_advise_46 : decode cX3_advise 46 = .ok (.ifCond .lt 9, 3) := by decide +kernel
theorem dX3_advise_49 : decode cX3_advise 49 = .ok (.iload 5, 2) := by decide +kernel
theorem dX3_advise_51 : decode cX3_advise 51 = .ok (.iload_n 3, 1) := by decide +kernel
theorem dX3_advise_52 : decode cX3_advise 52 = .ok (.if_icmp .ge 9, 3) := by decide +kernel
theorem dX3_advise_55 : decode cX3_advise 55 = .ok (.iload 5, 2) := by decide +kernel
theorem dX3_advise_57 : decode cX3_advise 57 = .ok (.istore_n 3, 1) := by decide +kernel
theorem dX3_advise_58 : decode cX3_advise 58 = .ok (.iload 4, 2) := by decide +kernel
theorem dX3_advise_60 : decode cX3_advise 60 = .ok (.istore_n 2, 1) := by decide +kernel
theorem dX3_advise_61 : decode cX3_advise 61 = .ok (.iinc 4 1, 3) := by decide +kernel
theorem dX3_advise_64 : decode cX3_advise 64 = .ok (.goto (-52), 3) := by decide +kernel
theorem dX3_advise_67 : decode cX3_advise 67 = .ok (.iload_n 2, 1) := by decide +kernel
theorem dX3_advise_68 : decode cX3_advise 68 = .ok (.ireturn, 1) := by decide +kernel
set_option maxRecDepth 20000 in
theorem ggX3_would_X3_hillAt : GoodIn wsX3_would wsX3_hillAt := goodIn_ca (goodIn_r _ [5, 6, 7, 8, 9, 10, 11, 12, 13, 14, 15, 16, 17, 18, 19, 20, 21, 22, 23, 24, 25, 26, 27, 28, 29, 30, 31, 32, 108, 109, 110, 111, 112, 113] (by decide +kernel) (by decide +kernel)) (goodIn_sub (fun _ h => List.mem_cons_of_mem _ (List.mem_append_left _ (List.mem_append_right _ h))) (by decide +kernel))
set_option maxRecDepth 20000 in
theorem gX3_would_X3_hillAt : GoodIn wsX3_would (wsV RX3 74 RX3 yX3_hillAt wsX3_hillAt) := goodIn_app (goodIn_of _ (by decide +kernel)) ggX3_would_X3_hillAt
set_option maxRecDepth 20000 in
theorem ggX3_would_X3_checkStrength : GoodIn wsX3_would wsX3_checkStrength := goodIn_ca (goodIn_r _ [36, 37, 38] (by decide +kernel) (by decide +kernel)) (goodIn_sub (fun _ h => List.mem_cons_of_mem _ (List.mem_append_right _ h)) (by decide +kernel))
set_option maxRecDepth 20000 in
theorem gX3_would_X3_checkStrength : GoodIn wsX3_would (wsV RX3 53 RX3 yX3_checkStrength wsX3_checkStrength) := goodIn_app (goodIn_of _ (by decide +kernel)) ggX3_would_X3_checkStrength
set_option maxRecDepth 20000 in
theorem ggX3_would_X3_wrongWordsWith : GoodIn wsX3_would wsX3_wrongWordsWith := goodIn_r _ [42, 43, 44, 45, 46, 47, 48, 49, 50, 51, 52, 53, 54, 55, 56, 57, 58, 59, 60, 61, 62, 63, 64, 65, 66, 67, 68, 69, 70, 71, 72, 73, 74, 75, 76, 77, 78, 79, 80, 81, 82, 83, 84, 4, 85, 8, 9, 10, 11, 12, 13, 14, 15, 16, 17, 18, 19, 20, 21, 22, 23, 24, 25, 26, 27, 28, 29, 30, 31, 32, 86, 87, 88, 89, 90, 91, 92, 93, 94, 95, 96, 97, 98, 99, 100, 101, 102, 103, 104, 105, 106, 107, 114, 115, 116, 117, 118, 108, 109, 110, 119, 120, 121, 122, 111, 112, 113] (by decide +kernel) (by decide +kernel)
set_option maxRecDepth 20000 in
theorem gX3_would_X3_wrongWordsWith : GoodIn wsX3_would (wsV RX3 194 RX3 yX3_wrongWordsWith wsX3_wrongWordsWith) := goodIn_app (goodIn_of _ (by decide +kernel)) ggX3_would_X3_wrongWordsWith
theorem dX3_would_0 : decode cX3_would 0 = .ok (.aload_n 0, 1) := by decide +kernel
theorem dX3_would_1 : decode cX3_would 1 = .ok (.iload_n 1, 1) := by decide +kernel
theorem dX3_would_2 : decode cX3_would 2 = .ok (.invokevirtual 74, 3) := by decide +kernel
theorem dX3_would_5 : decode cX3_would 5 = .ok (.astore_n 3, 1) := by decide +kernel
theorem dX3_would_6 : decode cX3_would 6 = .ok (.aload_n 0, 1) := by decide +kernel
theorem dX3_would_7 : decode cX3_would 7 = .ok (.iload_n 2, 1) := by decide +kernel
