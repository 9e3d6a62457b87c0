theorem dX3_would_8 : decode cX3_would 8 = .ok (.invokevirtual 53, 3) := by decide +kernel
theorem dX3_would_11 : decode cX3_would 11 = .ok (.aload_n 0, 1) := by decide +kernel
theorem dX3_would_12 : decode cX3_would 12 = .ok (.aload_n 3, 1) := by decide +kernel
theorem dX3_would_13 : decode cX3_would 13 = .ok (.iload_n 2, 1) := by decide +kernel
theorem dX3_would_14 : decode cX3_would 14 = .ok (.invokevirtual 194, 3) := by decide +kernel
theorem dX3_would_17 : decode cX3_would 17 = .ok (.ireturn, 1) := by decide +kernel
set_option maxRecDepth 20000 in
theorem ggX3_tune_X3_hillAt : GoodIn wsX3_tune wsX3_hillAt := goodIn_ca (goodIn_r _ [5, 6, 7, 8, 9, 10, 11, 12, 13, 14, 15, 16, 17, 18, 19, 20, 21, 22, 23, 24, 25, 26, 27, 28, 29, 30, 31, 32, 102, 103, 104, 105, 106, 107] (by decide +kernel) (by decide +kernel)) (goodIn_sub (fun _ h => List.mem_cons_of_mem _ (List.mem_append_right _ h)) (by decide +kernel))
set_option maxRecDepth 20000 in
theorem gX3_tune_X3_hillAt : GoodIn wsX3_tune (wsV RX3 74 RX3 yX3_hillAt wsX3_hillAt) := goodIn_app (goodIn_of _ (by decide +kernel)) ggX3_tune_X3_hillAt
set_option maxRecDepth 20000 in
theorem ggX3_tune_X3_wrongWordsWith : GoodIn wsX3_tune wsX3_wrongWordsWith := goodIn_r _ [36, 37, 38, 39, 40, 41, 42, 43, 44, 45, 46, 47, 48, 49, 50, 51, 52, 53, 54, 55, 56, 57, 58, 59, 60, 61, 62, 63, 64, 65, 66, 67, 68, 69, 70, 71, 72, 73, 74, 75, 76, 77, 78, 4, 79, 8, 9, 10, 11, 12, 13, 14, 15, 16, 17, 18, 19, 20, 21, 22, 23, 24, 25, 26, 27, 28, 29, 30, 31, 32, 80, 81, 82, 83, 84, 85, 86, 87, 88, 89, 90, 91, 92, 93, 94, 95, 96, 97, 98, 99, 100, 101, 108, 109, 110, 111, 112, 102, 103, 104, 113, 114, 115, 116, 105, 106, 107] (by decide +kernel) (by decide +kernel)
set_option maxRecDepth 20000 in
theorem gX3_tune_X3_wrongWordsWith : GoodIn wsX3_tune (wsV RX3 194 RX3 yX3_wrongWordsWith wsX3_wrongWordsWith) := goodIn_app (goodIn_of _ (by decide +kernel)) ggX3_tune_X3_wrongWordsWith
theorem dX3_tune_0 : decode cX3_tune 0 = .ok (.aload_n 0, 1) := by decide +kernel
theorem dX3_tune_1 : decode cX3_tune 1 = .ok (.iload_n 1, 1) := by decide +kernel
theorem dX3_tune_2 : decode cX3_tune 2 = .ok (.invokevirtual 74, 3) := by decide +kernel
theorem dX3_tune_5 : decode cX3_tune 5 = .ok (.astore_n 2, 1) := by decide +kernel
theorem dX3_tune_6 : decode cX3_tune 6 = .ok (.iconst 1, 1) := by decide +kernel
theorem dX3_tune_7 : decode cX3_tune 7 = .ok (.istore_n 3, 1) := by decide +kernel
theorem dX3_tune_8 : decode cX3_tune 8 = .ok (.aload_n 0, 1) := by decide +kernel
theorem dX3_tune_9 : decode cX3_tune 9 = .ok (.aload_n 2, 1) := by decide +kernel
theorem dX3_tune_10 : decode cX3_tune 10 = .ok (.iconst 1, 1) := by decide +kernel
theorem dX3_tune_11 : decode cX3_tune 11 = .ok (.invokevirtual 194, 3) := by decide +kernel
theorem dX3_tune_14 : decode cX3_tune 14 = .ok (.istore 4, 2) := by decide +kernel
theorem dX3_tune_16 : decode cX3_tune 16 = .ok (.iconst 2, 1) := by decide +kernel
theorem dX3_tune_17 : decode cX3_tune 17 = .ok (.istore 5, 2) := by decide +kernel
theorem dX3_tune_19 : decode cX3_tune 19 = .ok (.iload 5, 2) := by decide +kernel
theorem dX3_tune_21 : decode cX3_tune 21 = .ok (.bipush 9, 2) := by decide +kernel
theorem dX3_tune_23 : decode cX3_tune 23 = .ok (.if_icmp .gt 32, 3) := by decide +kernel
theorem dX3_tune_26 : decode cX3_tune 26 = .ok (.aload_n 0, 1) := by decide +kernel
theorem dX3_tune_27 : decode cX3_tune 27 = .ok (.aload_n 2, 1) := by decide +kernel
theorem dX3_tune_28 : decode cX3_tune 28 = .ok (.iload 5, 2) := by decide +kernel
theorem dX3_tune_30 : decode cX3_tune 30 = .ok (.invokevirtual 194, 3) := by decide +kernel
theorem dX3_tune_33 : decode cX3_tune 33 = .ok (.istore 6, 2) := by decide +kernel
theorem dX3_tune_35 : decode cX3_tune 35 = .ok (.iload 6, 2) := by decide +kernel
theorem dX3_tune_37 : decode cX3_tune 37 = .ok (.iload 4, 2) := by decide +kernel
theorem dX3_tune_39 : decode cX3_tune 39 = .ok (.if_icmp .ge 10, 3) := by decide +kernel
theorem dX3_tune_42 : decode cX3_tune 42 = .ok (.iload 6, 2) := by decide +kernel
theorem dX3_tune_44 : decode cX3_tune 44 = .ok (.istore 4, 2) := by decide +kernel
theorem dX3_tune_46 : decode cX3_tune 46 = .ok (.iload 5, 2) := by decide +kernel
theorem dX3_tune_48 : decode cX3_tune 48 = .ok (.istore_n 3, 1) := by decide +kernel
theorem dX3_tune_49 : decode cX3_tune 49 = .ok (.iinc 5 1, 3) := by decide +kernel
theorem dX3_tune_52 : decode cX3_tune 52 = .ok (.goto (-33), 3) := by decide +kernel
theorem dX3_tune_55 : decode cX3_tune 55 = .ok (.iload_n 3, 1) := by decide +kernel
theorem dX3_tune_56 : decode cX3_tune 56 = .ok (.ireturn, 1) := by decide +kernel
set_option maxRecDepth 20000 in
theorem ggX3_mean_X3_endOfAll : GoodIn wsX3_mean wsX3_endOfAll := goodIn_r _ [6, 7, 8, 9, 10, 11, 12, 13, 14, 15, 16, 17, 18, 19, 20, 21, 22, 23, 24, 25, 26, 27, 28, 29, 30, 31, 32, 33, 34, 35, 36, 37, 38, 39, 40, 41, 42, 43, 44, 45, 46, 47, 48, 60, 61, 62, 63, 64, 65, 66, 67, 68, 69, 70, 71] (by decide +kernel) (by decide +kernel)
set_option maxRecDepth 20000 in
theorem gX3_mean_X3_endOfAll : GoodIn wsX3_mean (wsV RX3 173 RX3 yX3_endOfAll wsX3_endOfAll) := goodIn_app (goodIn_of _ (by decide +kernel)) ggX3_mean_X3_endOfAll
set_option maxRecDepth 20000 in
theorem ggX3_mean_X2_sum : GoodIn wsX3_mean wsX2_sum := goodIn_r _ [53, 54, 55, 56, 52, 57, 58, 59, 72, 73, 74] (by decide +kernel) (by decide +kernel)
set_option maxRecDepth 20000 in
theorem gX3_mean_X2_sum : GoodIn wsX3_mean (wsV RX3 197 RX2 yX2_sum wsX2_sum) := goodIn_app (goodIn_of _ (by decide +kernel)) ggX3_mean_X2_sum
theorem dX3_mean_0 : decode cX3_mean 0 = .ok (.aload_n 0, 1) := by decide +kernel
theorem dX3_mean_1 : decode cX3_mean 1 = .ok (.invokevirtual 173, 3) := by decide +kernel
theorem dX3_mean_4 : decode cX3_mean 4 = .ok (.istore_n 1, 1) := by decide +kernel
theorem dX3_mean_5 : decode cX3_mean 5 = .ok (.iload_n 1, 1) := by decide +kernel
theorem dX3_mean_6 : decode cX3_mean 6 = .ok (.ifCond .gt 5, 3) := by decide +kernel
theorem dX3_mean_9 : decode cX3_mean 9 = .ok (.dconst 0, 1) := by decide +kernel
theorem dX3_mean_10 : decode cX3_mean 10 = .ok (.dreturn, 1) := by decide +kernel
theorem dX3_mean_11 : decode cX3_mean 11 = .ok (.aload_n 0, 1) := by decide +kernel
theorem dX3_mean_12 : decode cX3_mean 12 = .ok (.getfield 21, 3) := by decide +kernel
theorem dX3_mean_15 : decode cX3_mean 15 = .ok (.iload_n 1, 1) := by decide +kernel
theorem dX3_mean_16 : decode cX3_mean 16 = .ok (.invokevirtual 197, 3) := by decide +kernel
theorem dX3_mean_19 : decode cX3_mean 19 = .ok (.i2d, 1) := by decide +kernel
theorem dX3_mean_20 : decode cX3_mean 20 = .ok (.iload_n 1, 1) := by decide +kernel
theorem dX3_mean_21 : decode cX3_mean 21 = .ok (.i2d, 1) := by decide +kernel
theorem dX3_mean_22 : decode cX3_mean 22 = .ok (.ddiv, 1) := by decide +kernel
theorem dX3_mean_23 : decode cX3_mean 23 = .ok (.dreturn, 1) := by decide +kernel
set_option maxRecDepth 20000 in
theorem ggX3_digest_X3_count : GoodIn wsX3_digest wsX3_count := goodIn_ca (goodIn_r _ [10, 11, 12, 13, 14, 5, 3, 15, 16, 17, 18, 19, 20, 21, 22, 23, 9, 24, 25, 26, 27, 28, 29, 30, 31, 32, 33, 34, 35, 36, 37, 38, 39, 40, 41, 42, 43, 44, 45, 46, 47, 48, 49, 50, 51, 52, 53, 54, 55, 56, 57, 58, 59, 60, 61, 62, 63, 64, 65, 66, 67, 68, 69, 70, 71, 72, 73, 74, 75, 76, 77, 78, 79, 80, 81, 82, 83, 84, 85, 86, 87, 88, 89, 90, 91, 92, 93, 94, 95, 96, 97, 98, 99, 100, 101, 102, 103, 104, 105, 106, 107, 108, 109, 110, 111, 112, 113, 114, 115, 116, 117, 118, 119, 120, 121, 122, 123, 124, 125, 126, 127, 128, 154, 155, 156, 160, 161, 162, 163, 164, 165, 166, 167, 168, 157, 158, 159] (by decide +kernel) (by decide +kernel)) (goodIn_sub (fun _ h => List.mem_cons_of_mem _ (List.mem_append_right _ h)) (by decide +kernel))
set_option maxRecDepth 20000 in
theorem gX3_digest_X3_count : GoodIn wsX3_digest (wsV RX3 204 RX3 yX3_count wsX3_count) := goodIn_app (goodIn_of _ (by decide +kernel)) ggX3_digest_X3_count
set_option maxRecDepth 20000 in
theorem ggX3_digest_Jx4a65c_size_8abf5 : GoodIn wsX3_digest wsJx4a65c_size_8abf5 := goodIn_r _ [19, 20, 161, 162, 163] (by decide +kernel) (by decide +kernel)
set_option maxRecDepth 20000 in
theorem gX3_digest_Jx4a65c_size_8abf5 : GoodIn wsX3_digest (wsV RX3 56 RJx4a65c yJx4a65c_size_8abf5 wsJx4a65c_size_8abf5) := goodIn_app (goodIn_of _ (by decide +kernel)) ggX3_digest_Jx4a65c_size_8abf5
set_option maxRecDepth 20000 in
theorem ggX3_digest_X3_digestHill : GoodIn wsX3_digest wsX3_digestHill := goodIn_ca (goodIn_r _ [132, 2, 26, 133, 134, 135, 9, 136, 11, 12, 128, 137, 138, 3, 13, 14, 139, 140, 141, 142, 5, 25, 15, 16, 17, 18, 19, 20, 27, 28, 29, 30, 31, 32, 33, 34, 35, 36, 37, 38, 39, 40, 41, 42, 43, 48, 49, 50, 51, 52, 53, 54, 55, 56, 57, 58, 59, 60, 61, 62, 63, 64, 65, 66, 67, 68, 69, 70, 71, 72, 73, 74, 75, 76, 77, 78, 79, 80, 81, 82, 83, 84, 85, 86, 87, 88, 89, 90, 91, 92, 93, 94, 95, 96, 97, 106, 107, 108, 109, 110, 111, 143, 144, 145, 146, 116, 117, 104, 118, 147, 148, 149, 150, 151, 152, 153, 164, 165, 166, 167, 168, 154, 155, 156, 160, 161, 162, 163, 157, 158, 159] (by decide +kernel) (by decide +kernel)) (goodIn_sub (fun _ h => List.mem_cons_of_mem _ (List.mem_append_right _ h)) (by decide +kernel))
set_option maxRecDepth 20000 in
theorem gX3_digest_X3_digestHill : GoodIn wsX3_digest (wsV RX3 207 RX3 yX3_digestHill wsX3_digestHill) := goodIn_app (goodIn_of _ (by decide +kernel)) ggX3_digest_X3_digestHill
theorem dX3_digest_0 : decode cX3_digest 0 = .ok (.ldc2_w 200, 3) := by decide +kernel
theorem dX3_digest_3 : decode cX3_digest 3 = .ok (.lstore_n 1, 1) := by decide +kernel
theorem dX3_digest_4 : decode cX3_digest 4 = .ok (.iconst 0, 1) := by decide +kernel
theorem dX3_digest_5 : decode cX3_digest 5 = .ok (.istore_n 3, 1) := by decide +kernel
theorem dX3_digest_6 : decode cX3_digest 6 = .ok (.iload_n 3, 1) := by decide +kernel
theorem dX3_digest_7 : decode cX3_digest 7 = .ok (.bipush 7, 2) := by decide +kernel
theorem dX3_digest_9 : decode cX3_digest 9 = .ok (.if_icmp .ge 22, 3) := by decide +kernel
theorem dX3_digest_12 : decode cX3_digest 12 = .ok (.lload_n 1, 1) := by decide +kernel
theorem dX3_digest_13 : decode cX3_digest 13 = .ok (.ldc2_w 202, 3) := by decide +kernel
theorem dX3_digest_16 : decode cX3_digest 16 = .ok (.lmul, 1) := by decide +kernel
theorem dX3_digest_17 : decode cX3_digest 17 = .ok (.aload_n 0, 1) := by decide +kernel
theorem dX3_digest_18 : decode cX3_digest 18 = .ok (.iload_n 3, 1) := by decide +kernel
theorem dX3_digest_19 : decode cX3_digest 19 = .ok (.invokevirtual 204, 3) := by decide +kernel
theorem dX3_digest_22 : decode cX3_digest 22 = .ok (.i2l, 1) := by decide +kernel
theorem dX3_digest_23 : decode cX3_digest 23 = .ok (.ladd, 1) := by decide +kernel
theorem dX3_digest_24 : decode cX3_digest 24 = .ok (.lstore_n 1, 1) := by decide +kernel
theorem dX3_digest_25 : decode cX3_digest 25 = .ok (.iinc 3 1, 3) := by decide +kernel
theorem dX3_digest_28 : decode cX3_digest 28 = .ok (.goto (-22), 3) := by decide +kernel
theorem dX3_digest_31 : decode cX3_digest 31 = .ok (.aload_n 0, 1) := by decide +kernel
theorem dX3_digest_32 : decode cX3_digest 32 = .ok (.getfield 21, 3) := by decide +kernel
theorem dX3_digest_35 : decode cX3_digest 35 = .ok (.getfield 113, 3) := by decide +kernel
theorem dX3_digest_38 : decode cX3_digest 38 = .ok (.astore_n 3, 1) := by decide +kernel
theorem dX3_digest_39 : decode cX3_digest 39 = .ok (.aload_n 3, 1) := by decide +kernel
theorem dX3_digest_40 : decode cX3_digest 40 = .ok (.arraylength, 1) := by decide +kernel
theorem dX3_digest_41 : decode cX3_digest 41 = .ok (.istore 4, 2) := by decide +kernel
theorem dX3_digest_43 : decode cX3_digest 43 = .ok (.iconst 0, 1) := by decide +kernel
theorem dX3_digest_44 : decode cX3_digest 44 = .ok (.istore 5, 2) := by decide +kernel
theorem dX3_digest_46 : decode cX3_digest 46 = .ok (.iload 5, 2) := by decide +kernel
theorem dX3_digest_48 : decode cX3_digest 48 = .ok (.iload 4, 2) := by decide +kernel
theorem dX3_digest_50 : decode cX3_digest 50 = .ok (.if_icmp .ge 25, 3) := by decide +kernel
theorem dX3_digest_53 : decode cX3_digest 53 = .ok (.aload_n 3, 1) := by decide +kernel
theorem dX3_digest_54 : decode cX3_digest 54 = .ok (.iload 5, 2) := by decide +kernel
theorem dX3_digest_56 : decode cX3_digest 56 = .ok (.iaload, 1) := by decide +kernel
theorem dX3_digest_57 : decode cX3_digest 57 = .ok (.istore 6, 2) := by decide +kernel
theorem dX3_digest_59 : decode cX3_digest 59 = .ok (.lload_n 1, 1) := by decide +kernel
theorem dX3_digest_60 : decode cX3_digest 60 = .ok (.ldc2_w 202, 3) := by decide +kernel
theorem dX3_digest_63 : decode cX3_digest 63 = .ok (.lmul, 1) := by decide +kernel
theorem dX3_digest_64 : decode cX3_digest 64 = .ok (.iload 6, 2) := by decide +kernel
theorem dX3_digest_66 : decode cX3_digest 66 = .ok (.i2l, 1) := by decide +kernel
theorem dX3_digest_67 : decode cX3_digest 67 = .ok (.ladd, 1) := by decide +kernel
theorem dX3_digest_68 : decode cX3_digest 68 = .ok (.lstore_n 1, 1) := by decide +kernel
theorem dX3_digest_69 : decode cX3_digest 69 = .ok (.iinc 5 1, 3) := by decide +kernel
theorem dX3_digest_72 : decode cX3_digest 72 = .ok (.goto (-26), 3) := by decide +kernel
theorem dX3_digest_75 : decode cX3_digest 75 = .ok (.iconst 0, 1) := by decide +kernel
theorem dX3_digest_76 : decode cX3_digest 76 = .ok (.istore_n 3, 1) := by decide +kernel
theorem dX3_digest_77 : decode cX3_digest 77 = .ok (.iload_n 3, 1) := by decide +kernel
theorem dX3_digest_78 : decode cX3_digest 78 = .ok (.aload_n 0, 1) := by decide +kernel
theorem dX3_digest_79 : decode cX3_digest 79 = .ok (.getfield 28, 3) := by decide +kernel
theorem dX3_digest_82 : decode cX3_digest 82 = .ok (.invokevirtual 56, 3) := by decide +kernel
theorem dX3_digest_85 : decode cX3_digest 85 = .ok (.if_icmp .ge 16, 3) := by decide +kernel
theorem dX3_digest_88 : decode cX3_digest 88 = .ok (.aload_n 0, 1) := by decide +kernel
theorem dX3_digest_89 : decode cX3_digest 89 = .ok (.lload_n 1, 1) := by decide +kernel
theorem dX3_digest_90 : decode cX3_digest 90 = .ok (.iload_n 3, 1) := by decide +kernel
theorem dX3_digest_91 : decode cX3_digest 91 = .ok (.invokevirtual 207, 3) := by decide +kernel
theorem dX3_digest_94 : decode cX3_digest 94 = .ok (.lstore_n 1, 1) := by decide +kernel
theorem dX3_digest_95 : decode cX3_digest 95 = .ok (.iinc 3 1, 3) := by decide +kernel
theorem dX3_digest_98 : decode cX3_digest 98 = .ok (.goto (-21), 3) := by decide +kernel
theorem dX3_digest_101 : decode cX3_digest 101 = .ok (.lload_n 1, 1) := by decide +kernel
theorem dX3_digest_102 : decode cX3_digest 102 = .ok (.lreturn, 1) := by decide +kernel
set_option maxRecDepth 20000 in
theorem ggX3_digestHill_X3_about : GoodIn wsX3_digestHill wsX3_about := goodIn_ca (goodIn_r _ [7, 8, 9, 10, 11, 12, 2, 13, 14, 15, 16, 17, 18, 6, 19, 20, 21, 22, 23, 24, 25, 26, 27, 28, 29, 30, 31, 32, 33, 34, 35, 36, 37, 38, 39, 40, 41, 42, 43, 44, 45, 46, 47, 48, 49, 50, 51, 52, 53, 54, 55, 56, 57, 58, 59, 60, 61, 62, 63, 64, 65, 66, 67, 68, 69, 70, 71, 72, 73, 74, 75, 76, 77, 78, 79, 80, 81, 82, 83, 84, 85, 86, 87, 88, 89, 90, 91, 92, 93, 94, 95, 96, 97, 98, 99, 100, 101, 102, 103, 104, 105, 106, 107, 108, 116, 117, 118, 119, 120, 121, 122, 123, 124, 125, 126, 127, 128, 129, 130] (by decide +kernel) (by decide +kernel)) (goodIn_sub (fun _ h => List.mem_cons_of_mem _ (List.mem_append_right _ h)) (by decide +kernel))
set_option maxRecDepth 20000 in
theorem gX3_digestHill_X3_about : GoodIn wsX3_digestHill (wsV RX3 211 RX3 yX3_about wsX3_about) := goodIn_app (goodIn_of _ (by decide +kernel)) ggX3_digestHill_X3_about
set_option maxRecDepth 20000 in
theorem ggX3_digestHill_X3_hillAt : GoodIn wsX3_digestHill wsX3_hillAt := goodIn_ca (goodIn_r _ [19, 8, 9, 20, 21, 22, 23, 24, 25, 26, 27, 28, 29, 30, 31, 32, 33, 34, 35, 36, 37, 38, 39, 40, 41, 42, 43, 44, 121, 122, 123, 125, 126, 127] (by decide +kernel) (by decide +kernel)) (goodIn_sub (fun _ h => List.mem_cons_of_mem _ (List.mem_append_right _ h)) (by decide +kernel))
set_option maxRecDepth 20000 in
theorem gX3_digestHill_X3_hillAt : GoodIn wsX3_digestHill (wsV RX3 74 RX3 yX3_hillAt wsX3_hillAt) := goodIn_app (goodIn_of _ (by decide +kernel)) ggX3_digestHill_X3_hillAt
set_option maxRecDepth 20000 in
theorem ggX3_digestHill_X3_word : GoodIn wsX3_digestHill wsX3_word := goodIn_ca (goodIn_r _ [112, 8, 9, 2, 13, 16, 17, 18, 6, 19, 20, 21, 22, 23, 24, 25, 26, 27, 28, 29, 30, 31, 32, 33, 34, 35, 36, 37, 38, 39, 40, 41, 42, 43, 44, 113, 91, 92, 61, 93, 94, 114, 52, 53, 48, 54, 55, 56, 57, 58, 59, 60, 62, 63, 64, 65, 66, 67, 68, 69, 70, 71, 72, 73, 74, 75, 76, 77, 78, 79, 80, 81, 82, 83, 84, 85, 115, 87, 88, 89, 90, 116, 117, 118, 119, 120, 121, 122, 123, 125, 126, 127, 128, 129, 130, 124] (by decide +kernel) (by decide +kernel)) (goodIn_sub (fun _ h => List.mem_cons_of_mem _ (List.mem_append_right _ h)) (by decide +kernel))
set_option maxRecDepth 20000 in
theorem gX3_digestHill_X3_word : GoodIn wsX3_digestHill (wsV RX3 214 RX3 yX3_word wsX3_word) := goodIn_app (goodIn_of _ (by decide +kernel)) ggX3_digestHill_X3_word
theorem dX3_digestHill_0 : decode cX3_digestHill 0 = .ok (.lload_n 1, 1) := by decide +kernel
theorem dX3_digestHill_1 : decode cX3_digestHill 1 = .ok (.lstore 4, 2) := by decide +kernel
theorem dX3_digestHill_3 : decode cX3_digestHill 3 = .ok (.iconst 0, 1) := by decide +kernel
theorem dX3_digestHill_4 : decode cX3_digestHill 4 = .ok (.istore 6, 2) := by decide +kernel
theorem dX3_digestHill_6 : decode cX3_digestHill 6 = .ok (.iload 6, 2) := by decide +kernel
theorem dX3_digestHill_8 : decode cX3_digestHill 8 = .ok (.bipush 7, 2) := by decide +kernel
theorem dX3_digestHill_10 : decode cX3_digestHill 10 = .ok (.if_icmp .ge 26, 3) := by decide +kernel
theorem dX3_digestHill_13 : decode cX3_digestHill 13 = .ok (.lload 4, 2) := by decide +kernel
theorem dX3_digestHill_15 : decode cX3_digestHill 15 = .ok (.ldc2_w 202, 3) := by decide +kernel
theorem dX3_digestHill_18 : decode cX3_digestHill 18 = .ok (.lmul, 1) := by decide +kernel
theorem dX3_digestHill_19 : decode cX3_digestHill 19 = .ok (.aload_n 0, 1) := by decide +kernel
theorem dX3_digestHill_20 : decode cX3_digestHill 20 = .ok (.iload_n 3, 1) := by decide +kernel
theorem dX3_digestHill_21 : decode cX3_digestHill 21 = .ok (.iload 6, 2) := by decide +kernel
theorem dX3_digestHill_23 : decode cX3_digestHill 23 = .ok (.invokevirtual 211, 3) := by decide +kernel
theorem dX3_digestHill_26 : decode cX3_digestHill 26 = .ok (.i2l, 1) := by decide +kernel
theorem dX3_digestHill_27 : decode cX3_digestHill 27 = .ok (.ladd, 1) := by decide +kernel
theorem dX3_digestHill_28 : decode cX3_digestHill 28 = .ok (.lstore 4, 2) := by decide +kernel
theorem dX3_digestHill_30 : decode cX3_digestHill 30 = .ok (.iinc 6 1, 3) := by decide +kernel
theorem dX3_digestHill_33 : decode cX3_digestHill 33 = .ok (.goto (-27), 3) := by decide +kernel
theorem dX3_digestHill_36 : decode cX3_digestHill 36 = .ok (.aload_n 0, 1) := by decide +kernel
theorem dX3_digestHill_37 : decode cX3_digestHill 37 = .ok (.iload_n 3, 1) := by decide +kernel
theorem dX3_digestHill_38 : decode cX3_digestHill 38 = .ok (.invokevirtual 74, 3) := by decide +kernel
theorem dX3_digestHill_41 : decode cX3_digestHill 41 = .ok (.getfield 86, 3) := by decide +kernel
theorem dX3_digestHill_44 : decode cX3_digestHill 44 = .ok (.istore 6, 2) := by decide +kernel
theorem dX3_digestHill_46 : decode cX3_digestHill 46 = .ok (.iconst 0, 1) := by decide +kernel
theorem dX3_digestHill_47 : decode cX3_digestHill 47 = .ok (.istore 7, 2) := by decide +kernel
theorem dX3_digestHill_49 : decode cX3_digestHill 49 = .ok (.iload 7, 2) := by decide +kernel
theorem dX3_digestHill_51 : decode cX3_digestHill 51 = .ok (.iload 6, 2) := by decide +kernel
theorem dX3_digestHill_53 : decode cX3_digestHill 53 = .ok (.if_icmp .ge 43, 3) := by decide +kernel
theorem dX3_digestHill_56 : decode cX3_digestHill 56 = .ok (.iconst 0, 1) := by decide +kernel
theorem dX3_digestHill_57 : decode cX3_digestHill 57 = .ok (.istore 8, 2) := by decide +kernel
theorem dX3_digestHill_59 : decode cX3_digestHill 59 = .ok (.iload 8, 2) := by decide +kernel
theorem dX3_digestHill_61 : decode cX3_digestHill 61 = .ok (.iconst 3, 1) := by decide +kernel
theorem dX3_digestHill_62 : decode cX3_digestHill 62 = .ok (.if_icmp .ge 28, 3) := by decide +kernel
theorem dX3_digestHill_65 : decode cX3_digestHill 65 = .ok (.lload 4, 2) := by decide +kernel
theorem dX3_digestHill_67 : decode cX3_digestHill 67 = .ok (.ldc2_w 202, 3) := by decide +kernel
theorem dX3_digestHill_70 : decode cX3_digestHill 70 = .ok (.lmul, 1) := by decide +kernel
theorem dX3_digestHill_71 : decode cX3_digestHill 71 = .ok (.aload_n 0, 1) := by decide +kernel
theorem dX3_digestHill_72 : decode cX3_digestHill 72 = .ok (.iload_n 3, 1) := by decide +kernel
theorem dX3_digestHill_73 : decode cX3_digestHill 73 = .ok (.iload 7, 2) := by decide +kernel
theorem dX3_digestHill_75 : decode cX3_digestHill 75 = .ok (.iload 8, 2) := by decide +kernel
theorem dX3_digestHill_77 : decode cX3_digestHill 77 = .ok (.invokevirtual 214, 3) := by decide +kernel
theorem dX3_digestHill_80 : decode cX3_digestHill 80 = .ok (.i2l, 1) := by decide +kernel
theorem dX3_digestHill_81 : decode cX3_digestHill 81 = .ok (.ladd, 1) := by decide +kernel
theorem dX3_digestHill_82 : decode cX3_digestHill 82 = .ok (.lstore 4, 2) := by decide +kernel
theorem dX3_digestHill_84 : decode cX3_digestHill 84 = .ok (.iinc 8 1, 3) := by decide +kernel
theorem dX3_digestHill_87 : decode cX3_digestHill 87 = .ok (.goto (-28), 3) := by decide +kernel
theorem dX3_digestHill_90 : decode cX3_digestHill 90 = .ok (.iinc 7 1, 3) := by decide +kernel
theorem dX3_digestHill_93 : decode cX3_digestHill 93 = .ok (.goto (-44), 3) := by decide +kernel
theorem dX3_digestHill_96 : decode cX3_digestHill 96 = .ok (.lload 4, 2) := by decide +kernel
theorem dX3_digestHill_98 : decode cX3_digestHill 98 = .ok (.lreturn, 1) := by decide +kernel
set_option maxRecDepth 20000 in
theorem ggX3_hillAt_Jx4a65c_size_8abf5 : GoodIn wsX3_hillAt wsJx4a65c_size_8abf5 := goodIn_r _ [9, 10, 31, 32, 33] (by decide +kernel) (by decide +kernel)
set_option maxRecDepth 20000 in
theorem gX3_hillAt_Jx4a65c_size_8abf5 : GoodIn wsX3_hillAt (wsV RX3 56 RJx4a65c yJx4a65c_size_8abf5 wsJx4a65c_size_8abf5) := goodIn_app (goodIn_of _ (by decide +kernel)) ggX3_hillAt_Jx4a65c_size_8abf5
set_option maxRecDepth 20000 in
theorem ggX3_hillAt_Jx4a65c_get_915e3 : GoodIn wsX3_hillAt wsJx4a65c_get_915e3 := goodIn_r _ [14, 10, 15, 16, 17, 18, 19, 20, 21, 22, 23, 24, 25, 8, 26, 27, 31, 32, 33] (by decide +kernel) (by decide +kernel)
set_option maxRecDepth 20000 in
theorem gX3_hillAt_Jx4a65c_get_915e3 : GoodIn wsX3_hillAt (wsV RX3 219 RJx4a65c yJx4a65c_get_915e3 wsJx4a65c_get_915e3) := goodIn_app (goodIn_of _ (by decide +kernel)) ggX3_hillAt_Jx4a65c_get_915e3
theorem dX3_hillAt_0 : decode cX3_hillAt 0 = .ok (.iload_n 1, 1) := by decide +kernel
theorem dX3_hillAt_1 : decode cX3_hillAt 1 = .ok (.ifCond .lt 14, 3) := by decide +kernel
theorem dX3_hillAt_4 : decode cX3_hillAt 4 = .ok (.iload_n 1, 1) := by decide +kernel
theorem dX3_hillAt_5 : decode cX3_hillAt 5 = .ok (.aload_n 0, 1) := by decide +kernel
theorem dX3_hillAt_6 : decode cX3_hillAt 6 = .ok (.getfield 28, 3) := by decide +kernel
theorem dX3_hillAt_9 : decode cX3_hillAt 9 = .ok (.invokevirtual 56, 3) := by decide +kernel
theorem dX3_hillAt_12 : decode cX3_hillAt 12 = .ok (.if_icmp .lt 13, 3) := by decide +kernel
theorem dX3_hillAt_15 : decode cX3_hillAt 15 = .ok (.new 106, 3) := by decide +kernel
theorem dX3_hillAt_18 : decode cX3_hillAt 18 = .ok (.dup, 1) := by decide +kernel
theorem dX3_hillAt_19 : decode cX3_hillAt 19 = .ok (.ldc 217, 2) := by decide +kernel
theorem dX3_hillAt_21 : decode cX3_hillAt 21 = .ok (.invokespecial 110, 3) := by decide +kernel
theorem dX3_hillAt_24 : decode cX3_hillAt 24 = .ok (.athrow, 1) := by decide +kernel
theorem dX3_hillAt_25 : decode cX3_hillAt 25 = .ok (.aload_n 0, 1) := by decide +kernel
theorem dX3_hillAt_26 : decode cX3_hillAt 26 = .ok (.getfield 28, 3) := by decide +kernel
theorem dX3_hillAt_29 : decode cX3_hillAt 29 = .ok (.iload_n 1, 1) := by decide +kernel
theorem dX3_hillAt_30 : decode cX3_hillAt 30 = .ok (.invokevirtual 219, 3) := by decide +kernel
theorem dX3_hillAt_33 : decode cX3_hillAt 33 = .ok (.checkcast 65, 3) := by decide +kernel
theorem dX3_hillAt_36 : decode cX3_hillAt 36 = .ok (.areturn, 1) := by decide +kernel
set_option maxRecDepth 20000 in
theorem ggX3_checkCode_X0_has : GoodIn wsX3_checkCode wsX0_has := goodIn_r _ [8, 9, 13] (by decide +kernel) (by decide +kernel)
set_option maxRecDepth 20000 in
theorem gX3_checkCode_X0_has : GoodIn wsX3_checkCode (wsV RX3 117 RX0 yX0_has wsX0_has) := goodIn_app (goodIn_of _ (by decide +kernel)) ggX3_checkCode_X0_has
theorem dX3_checkCode_0 : decode cX3_checkCode 0 = .ok (.aload_n 0, 1) := by decide +kernel
theorem dX3_checkCode_1 : decode cX3_checkCode 1 = .ok (.getfield 12, 3) := by decide +kernel
theorem dX3_checkCode_4 : decode cX3_checkCode 4 = .ok (.iload_n 1, 1) := by decide +kernel
theorem dX3_checkCode_5 : decode cX3_checkCode 5 = .ok (.invokevirtual 117, 3) := by decide +kernel
theorem dX3_checkCode_8 : decode cX3_checkCode 8 = .ok (.ifCond .ne 13, 3) := by decide +kernel
theorem dX3_checkCode_11 : decode cX3_checkCode 11 = .ok (.new 106, 3) := by decide +kernel
theorem dX3_checkCode_14 : decode cX3_checkCode 14 = .ok (.dup, 1) := by decide +kernel
theorem dX3_checkCode_15 : decode cX3_checkCode 15 = .ok (.ldc 223, 2) := by decide +kernel
theorem dX3_checkCode_17 : decode cX3_checkCode 17 = .ok (.invokespecial 110, 3) := by decide +kernel
theorem dX3_checkCode_20 : decode cX3_checkCode 20 = .ok (.athrow, 1) := by decide +kernel
theorem dX3_checkCode_21 : decode cX3_checkCode 21 = .ok (.return_, 1) := by decide +kernel
theorem dX3_checkStrength_0 : decode cX3_checkStrength 0 = .ok (.iload_n 1, 1) := by decide +kernel
theorem dX3_checkStrength_1 : decode cX3_checkStrength 1 = .ok (.iconst 1, 1) := by decide +kernel
theorem dX3_checkStrength_2 : decode cX3_checkStrength 2 = .ok (.if_icmp .lt 9, 3) := by decide +kernel
theorem dX3_checkStrength_5 : decode cX3_checkStrength 5 = .ok (.iload_n 1, 1) := by decide +kernel
theorem dX3_checkStrength_6 : decode cX3_checkStrength 6 = .ok (.bipush 9, 2) := by decide +kernel
theorem dX3_checkStrength_8 : decode cX3_checkStrength 8 = .ok (.if_icmp .le 13, 3) := by decide +kernel
theorem dX3_checkStrength_11 : decode cX3_checkStrength 11 = .ok (.new 32, 3) := by decide +kernel
theorem dX3_checkStrength_14 : decode cX3_checkStrength 14 = .ok (.dup, 1) := by decide +kernel
theorem dX3_checkStrength_15 : decode cX3_checkStrength 15 = .ok (.ldc 225, 2) := by decide +kernel
theorem dX3_checkStrength_17 : decode cX3_checkStrength 17 = .ok (.invokespecial 36, 3) := by decide +kernel
theorem dX3_checkStrength_20 : decode cX3_checkStrength 20 = .ok (.athrow, 1) := by decide +kernel
theorem dX3_checkStrength_21 : decode cX3_checkStrength 21 = .ok (.return_, 1) := by decide +kernel
theorem dX3_checkDelay_0 : decode cX3_checkDelay 0 = .ok (.iload_n 1, 1) := by decide +kernel
theorem dX3_checkDelay_1 : decode cX3_checkDelay 1 = .ok (.ifCond .lt 14, 3) := by decide +kernel
theorem dX3_checkDelay_4 : decode cX3_checkDelay 4 = .ok (.iload_n 1, 1) := by decide +kernel
theorem dX3_checkDelay_5 : decode cX3_checkDelay 5 = .ok (.aload_n 0, 1) := by decide +kernel
theorem dX3_checkDelay_6 : decode cX3_checkDelay 6 = .ok (.getfield 12, 3) := by decide +kernel
theorem dX3_checkDelay_9 : decode cX3_checkDelay 9 = .ok (.getfield 39, 3) := by decide +kernel
theorem dX3_checkDelay_12 : decode cX3_checkDelay 12 = .ok (.if_icmp .lt 13, 3) := by decide +kernel
theorem dX3_checkDelay_15 : decode cX3_checkDelay 15 = .ok (.new 32, 3) := by decide +kernel
theorem dX3_checkDelay_18 : decode cX3_checkDelay 18 = .ok (.dup, 1) := by decide +kernel
theorem dX3_checkDelay_19 : decode cX3_checkDelay 19 = .ok (.ldc 227, 2) := by decide +kernel
theorem dX3_checkDelay_21 : decode cX3_checkDelay 21 = .ok (.invokespecial 36, 3) := by decide +kernel
theorem dX3_checkDelay_24 : decode cX3_checkDelay 24 = .ok (.athrow, 1) := by decide +kernel
theorem dX3_checkDelay_25 : decode cX3_checkDelay 25 = .ok (.return_, 1) := by decide +kernel
theorem dX3_checkTime_0 : decode cX3_checkTime 0 = .ok (.iload_n 1, 1) := by decide +kernel
theorem dX3_checkTime_1 : decode cX3_checkTime 1 = .ok (.ifCond .lt 10, 3) := by decide +kernel
theorem dX3_checkTime_4 : decode cX3_checkTime 4 = .ok (.iload_n 1, 1) := by decide +kernel
theorem dX3_checkTime_5 : decode cX3_checkTime 5 = .ok (.sipush 999, 3) := by decide +kernel
theorem dX3_checkTime_8 : decode cX3_checkTime 8 = .ok (.if_icmp .le 13, 3) := by decide +kernel
theorem dX3_checkTime_11 : decode cX3_checkTime 11 = .ok (.new 32, 3) := by decide +kernel
theorem dX3_checkTime_14 : decode cX3_checkTime 14 = .ok (.dup, 1) := by decide +kernel
theorem dX3_checkTime_15 : decode cX3_checkTime 15 = .ok (.ldc 229, 2) := by decide +kernel
theorem dX3_checkTime_17 : decode cX3_checkTime 17 = .ok (.invokespecial 36, 3) := by decide +kernel
theorem dX3_checkTime_20 : decode cX3_checkTime 20 = .ok (.athrow, 1) := by decide +kernel
theorem dX3_checkTime_21 : decode cX3_checkTime 21 = .ok (.return_, 1) := by decide +kernel
set_option maxRecDepth 20000 in
theorem ggX3_allWords_Jx4a65c_size_8abf5 : GoodIn wsX3_allWords wsJx4a65c_size_8abf5 := goodIn_r _ [8, 9, 35, 36, 37] (by decide +kernel) (by decide +kernel)
set_option maxRecDepth 20000 in
theorem gX3_allWords_Jx4a65c_size_8abf5 : GoodIn wsX3_allWords (wsV RX3 56 RJx4a65c yJx4a65c_size_8abf5 wsJx4a65c_size_8abf5) := goodIn_app (goodIn_of _ (by decide +kernel)) ggX3_allWords_Jx4a65c_size_8abf5
set_option maxRecDepth 20000 in
theorem ggX3_allWords_Jx4a65c_get_915e3 : GoodIn wsX3_allWords wsJx4a65c_get_915e3 := goodIn_r _ [13, 9, 14, 15, 16, 17, 18, 19, 20, 21, 22, 23, 24, 7, 25, 26, 35, 36, 37] (by decide +kernel) (by decide +kernel)
set_option maxRecDepth 20000 in
theorem gX3_allWords_Jx4a65c_get_915e3 : GoodIn wsX3_allWords (wsV RX3 219 RJx4a65c yJx4a65c_get_915e3 wsJx4a65c_get_915e3) := goodIn_app (goodIn_of _ (by decide +kernel)) ggX3_allWords_Jx4a65c_get_915e3
theorem dX3_allWords_0 : decode cX3_allWords 0 = .ok (.iconst 0, 1) := by decide +kernel
theorem dX3_allWords_1 : decode cX3_allWords 1 = .ok (.istore_n 1, 1) := by decide +kernel
theorem dX3_allWords_2 : decode cX3_allWords 2 = .ok (.iconst 0, 1) := by decide +kernel
theorem dX3_allWords_3 : decode cX3_allWords 3 = .ok (.istore_n 2, 1) := by decide +kernel
theorem dX3_allWords_4 : decode cX3_allWords 4 = .ok (.iload_n 2, 1) := by decide +kernel
theorem dX3_allWords_5 : decode cX3_allWords 5 = .ok (.aload_n 0, 1) := by decide +kernel
theorem dX3_allWords_6 : decode cX3_allWords 6 = .ok (.getfield 28, 3) := by decide +kernel
theorem dX3_allWords_9 : decode cX3_allWords 9 = .ok (.invokevirtual 56, 3) := by decide +kernel
theorem dX3_allWords_12 : decode cX3_allWords 12 = .ok (.if_icmp .ge 26, 3) := by decide +kernel
theorem dX3_allWords_15 : decode cX3_allWords 15 = .ok (.iload_n 1, 1) := by decide +kernel
theorem dX3_allWords_16 : decode cX3_allWords 16 = .ok (.aload_n 0, 1) := by decide +kernel
theorem dX3_allWords_17 : decode cX3_allWords 17 = .ok (.getfield 28, 3) := by decide +kernel
theorem dX3_allWords_20 : decode cX3_allWords 20 = .ok (.iload_n 2, 1) := by decide +kernel
theorem dX3_allWords_21 : decode cX3_allWords 21 = .ok (.invokevirtual 219, 3) := by decide +kernel
theorem dX3_allWords_24 : decode cX3_allWords 24 = .ok (.checkcast 65, 3) := by decide +kernel
theorem dX3_allWords_27 : decode cX3_allWords 27 = .ok (.getfield 86, 3) := by decide +kernel
theorem dX3_allWords_30 : decode cX3_allWords 30 = .ok (.iadd, 1) := by decide +kernel
theorem dX3_allWords_31 : decode cX3_allWords 31 = .ok (.istore_n 1, 1) := by decide +kernel
theorem dX3_allWords_32 : decode cX3_allWords 32 = .ok (.iinc 2 1, 3) := by decide +kernel
theorem dX3_allWords_35 : decode cX3_allWords 35 = .ok (.goto (-31), 3) := by decide +kernel
theorem dX3_allWords_38 : decode cX3_allWords 38 = .ok (.iload_n 1, 1) := by decide +kernel
theorem dX3_allWords_39 : decode cX3_allWords 39 = .ok (.ireturn, 1) := by decide +kernel
set_option maxRecDepth 20000 in
theorem ggX3_allWrongWords_Jx4a65c_size_8abf5 : GoodIn wsX3_allWrongWords wsJx4a65c_size_8abf5 := goodIn_r _ [8, 9, 80, 81, 82] (by decide +kernel) (by decide +kernel)
set_option maxRecDepth 20000 in
theorem gX3_allWrongWords_Jx4a65c_size_8abf5 : GoodIn wsX3_allWrongWords (wsV RX3 56 RJx4a65c yJx4a65c_size_8abf5 wsJx4a65c_size_8abf5) := goodIn_app (goodIn_of _ (by decide +kernel)) ggX3_allWrongWords_Jx4a65c_size_8abf5
set_option maxRecDepth 20000 in
theorem ggX3_allWrongWords_Jx4a65c_get_915e3 : GoodIn wsX3_allWrongWords wsJx4a65c_get_915e3 := goodIn_r _ [13, 9, 14, 15, 16, 17, 18, 19, 20, 21, 22, 23, 24, 7, 25, 26, 80, 81, 82] (by decide +kernel) (by decide +kernel)
set_option maxRecDepth 20000 in
theorem gX3_allWrongWords_Jx4a65c_get_915e3 : GoodIn wsX3_allWrongWords (wsV RX3 219 RJx4a65c yJx4a65c_get_915e3 wsJx4a65c_get_915e3) := goodIn_app (goodIn_of _ (by decide +kernel)) ggX3_allWrongWords_Jx4a65c_get_915e3
set_option maxRecDepth 20000 in
theorem ggX3_allWrongWords_X2_wrongWords : GoodIn wsX3_allWrongWords wsX2_wrongWords := goodIn_r _ [31, 32, 33, 34, 35, 30, 36, 37, 38, 39, 40, 41, 42, 43, 44, 45, 46, 47, 48, 49, 50, 51, 52, 53, 54, 55, 56, 57, 58, 59, 60, 61, 62, 63, 64, 65, 66, 67, 68, 69, 70, 71, 72, 73, 74, 75, 76, 83, 84, 85, 86, 87, 88, 89, 90, 91] (by decide +kernel) (by decide +kernel)
set_option maxRecDepth 20000 in
theorem gX3_allWrongWords_X2_wrongWords : GoodIn wsX3_allWrongWords (wsV RX3 155 RX2 yX2_wrongWords wsX2_wrongWords) := goodIn_app (goodIn_of _ (by decide +kernel)) ggX3_allWrongWords_X2_wrongWords
theorem dX3_allWrongWords_0 : decode cX3_allWrongWords 0 = .ok (.iconst 0, 1) := by decide +kernel
theorem dX3_allWrongWords_1 : decode cX3_allWrongWords 1 = .ok (.istore_n 1, 1) := by decide +kernel
theorem dX3_allWrongWords_2 : decode cX3_allWrongWords 2 = .ok (.iconst 0, 1) := by decide +kernel
theorem dX3_allWrongWords_3 : decode cX3_allWrongWords 3 = .ok (.istore_n 2, 1) := by decide +kernel
theorem dX3_allWrongWords_4 : decode cX3_allWrongWords 4 = .ok (.iload_n 2, 1) := by decide +kernel
theorem dX3_allWrongWords_5 : decode cX3_allWrongWords 5 = .ok (.aload_n 0, 1) := by decide +kernel
theorem dX3_allWrongWords_6 : decode cX3_allWrongWords 6 = .ok (.getfield 28, 3) := by decide +kernel
theorem dX3_allWrongWords_9 : decode cX3_allWrongWords 9 = .ok (.invokevirtual 56, 3) := by decide +kernel
theorem dX3_allWrongWords_12 : decode cX3_allWrongWords 12 = .ok (.if_icmp .ge 30, 3) := by decide +kernel
theorem dX3_allWrongWords_15 : decode cX3_allWrongWords 15 = .ok (.iload_n 1, 1) := by decide +kernel
theorem dX3_allWrongWords_16 : decode cX3_allWrongWords 16 = .ok (.aload_n 0, 1) := by decide +kernel
theorem dX3_allWrongWords_17 : decode cX3_allWrongWords 17 = .ok (.getfield 21, 3) := by decide +kernel
theorem dX3_allWrongWords_20 : decode cX3_allWrongWords 20 = .ok (.aload_n 0, 1) := by decide +kernel
theorem dX3_allWrongWords_21 : decode cX3_allWrongWords 21 = .ok (.getfield 28, 3) := by decide +kernel
theorem dX3_allWrongWords_24 : decode cX3_allWrongWords 24 = .ok (.iload_n 2, 1) := by decide +kernel
theorem dX3_allWrongWords_25 : decode cX3_allWrongWords 25 = .ok (.invokevirtual 219, 3) := by decide +kernel
theorem dX3_allWrongWords_28 : decode cX3_allWrongWords 28 = .ok (.checkcast 65, 3) := by decide +kernel
theorem dX3_allWrongWords_31 : decode cX3_allWrongWords 31 = .ok (.invokevirtual 155, 3) := by decide +kernel
theorem dX3_allWrongWords_34 : decode cX3_allWrongWords 34 = .ok (.iadd, 1) := by decide +kernel
theorem dX3_allWrongWords_35 : decode cX3_allWrongWords 35 = .ok (.istore_n 1, 1) := by decide +kernel
theorem dX3_allWrongWords_36 : decode cX3_allWrongWords 36 = .ok (.iinc 2 1, 3) := by decide +kernel
theorem dX3_allWrongWords_39 : decode cX3_allWrongWords 39 = .ok (.goto (-35), 3) := by decide +kernel
theorem dX3_allWrongWords_42 : decode cX3_allWrongWords 42 = .ok (.iload_n 1, 1) := by decide +kernel
theorem dX3_allWrongWords_43 : decode cX3_allWrongWords 43 = .ok (.ireturn, 1) := by decide +kernel
set_option maxRecDepth 20000 in
theorem ggX3_wrongWordsWith_X2_addWords : GoodIn wsX3_wrongWordsWith wsX2_addWords := goodIn_r _ [7, 8, 9, 10, 11, 6, 12, 13, 14, 15, 16, 17, 18, 19, 20, 21, 22, 23, 24, 25, 26, 27, 28, 29, 30, 31, 32, 33, 34, 35, 36, 37, 38, 39, 92, 93, 94, 95, 96, 100, 101, 102, 103] (by decide +kernel) (by decide +kernel)
set_option maxRecDepth 20000 in
theorem gX3_wrongWordsWith_X2_addWords : GoodIn wsX3_wrongWordsWith (wsV RX3 96 RX2 yX2_addWords wsX2_addWords) := goodIn_app (goodIn_of _ (by decide +kernel)) ggX3_wrongWordsWith_X2_addWords
set_option maxRecDepth 20000 in
theorem ggX3_wrongWordsWith_X3_allWrongWords : GoodIn wsX3_wrongWordsWith wsX3_allWrongWords := goodIn_r _ [44, 45, 2, 46, 47, 48, 49, 50, 51, 52, 53, 54, 55, 56, 57, 58, 59, 60, 61, 62, 63, 64, 65, 66, 67, 68, 69, 70, 71, 72, 6, 73, 8, 74, 75, 76, 77, 16, 13, 14, 23, 24, 25, 20, 26, 27, 78, 79, 80, 81, 82, 83, 84, 85, 86, 15, 28, 29, 30, 31, 32, 33, 34, 35, 36, 37, 38, 39, 87, 88, 89, 90, 91, 18, 19, 21, 22, 97, 98, 99, 104, 105, 106, 92, 93, 94, 95, 96, 100, 101, 102, 103] (by decide +kernel) (by decide +kernel)
set_option maxRecDepth 20000 in
theorem gX3_wrongWordsWith_X3_allWrongWords : GoodIn wsX3_wrongWordsWith (wsV RX3 170 RX3 yX3_allWrongWords wsX3_allWrongWords) := goodIn_app (goodIn_of _ (by decide +kernel)) ggX3_wrongWordsWith_X3_allWrongWords
theorem dX3_wrongWordsWith_0 : decode cX3_wrongWordsWith 0 = .ok (.iload_n 2, 1) := by decide +kernel
theorem dX3_wrongWordsWith_1 : decode cX3_wrongWordsWith 1 = .ok (.aload_n 1, 1) := by decide +kernel
theorem dX3_wrongWordsWith_2 : decode cX3_wrongWordsWith 2 = .ok (.getfield 89, 3) := by decide +kernel
theorem dX3_wrongWordsWith_5 : decode cX3_wrongWordsWith 5 = .ok (.isub, 1) := by decide +kernel
theorem dX3_wrongWordsWith_6 : decode cX3_wrongWordsWith 6 = .ok (.istore_n 3, 1) := by decide +kernel
theorem dX3_wrongWordsWith_7 : decode cX3_wrongWordsWith 7 = .ok (.aload_n 0, 1) := by decide +kernel
theorem dX3_wrongWordsWith_8 : decode cX3_wrongWordsWith 8 = .ok (.getfield 21, 3) := by decide +kernel
theorem dX3_wrongWordsWith_11 : decode cX3_wrongWordsWith 11 = .ok (.aload_n 1, 1) := by decide +kernel
theorem dX3_wrongWordsWith_12 : decode cX3_wrongWordsWith 12 = .ok (.iload_n 3, 1) := by decide +kernel
theorem dX3_wrongWordsWith_13 : decode cX3_wrongWordsWith 13 = .ok (.invokevirtual 96, 3) := by decide +kernel
theorem dX3_wrongWordsWith_16 : decode cX3_wrongWordsWith 16 = .ok (.aload_n 0, 1) := by decide +kernel
theorem dX3_wrongWordsWith_17 : decode cX3_wrongWordsWith 17 = .ok (.invokevirtual 170, 3) := by decide +kernel
theorem dX3_wrongWordsWith_20 : decode cX3_wrongWordsWith 20 = .ok (.istore 4, 2) := by decide +kernel
theorem dX3_wrongWordsWith_22 : decode cX3_wrongWordsWith 22 = .ok (.aload_n 0, 1) := by decide +kernel
theorem dX3_wrongWordsWith_23 : decode cX3_wrongWordsWith 23 = .ok (.getfield 21, 3) := by decide +kernel
theorem dX3_wrongWordsWith_26 : decode cX3_wrongWordsWith 26 = .ok (.aload_n 1, 1) := by decide +kernel
theorem dX3_wrongWordsWith_27 : decode cX3_wrongWordsWith 27 = .ok (.iload_n 3, 1) := by decide +kernel
theorem dX3_wrongWordsWith_28 : decode cX3_wrongWordsWith 28 = .ok (.ineg, 1) := by decide +kernel
theorem dX3_wrongWordsWith_29 : decode cX3_wrongWordsWith 29 = .ok (.invokevirtual 96, 3) := by decide +kernel
theorem dX3_wrongWordsWith_32 : decode cX3_wrongWordsWith 32 = .ok (.iload 4, 2) := by decide +kernel
theorem dX3_wrongWordsWith_34 : decode cX3_wrongWordsWith 34 = .ok (.ireturn, 1) := by decide +kernel
set_option maxRecDepth 20000 in
theorem ggX3_endOfAll_Jx4a65c_size_8abf5 : GoodIn wsX3_endOfAll wsJx4a65c_size_8abf5 := goodIn_r _ [13, 14, 47, 48, 49] (by decide +kernel) (by decide +kernel)
set_option maxRecDepth 20000 in
theorem gX3_endOfAll_Jx4a65c_size_8abf5 : GoodIn wsX3_endOfAll (wsV RX3 56 RJx4a65c yJx4a65c_size_8abf5 wsJx4a65c_size_8abf5) := goodIn_app (goodIn_of _ (by decide +kernel)) ggX3_endOfAll_Jx4a65c_size_8abf5
set_option maxRecDepth 20000 in
theorem ggX3_endOfAll_Jx4a65c_get_915e3 : GoodIn wsX3_endOfAll wsJx4a65c_get_915e3 := goodIn_r _ [18, 14, 19, 20, 21, 22, 23, 24, 25, 26, 27, 28, 29, 12, 30, 31, 47, 48, 49] (by decide +kernel) (by decide +kernel)
set_option maxRecDepth 20000 in
theorem gX3_endOfAll_Jx4a65c_get_915e3 : GoodIn wsX3_endOfAll (wsV RX3 219 RJx4a65c yJx4a65c_get_915e3 wsJx4a65c_get_915e3) := goodIn_app (goodIn_of _ (by decide +kernel)) ggX3_endOfAll_Jx4a65c_get_915e3
set_option maxRecDepth 20000 in
theorem ggX3_endOfAll_X1_end : GoodIn wsX3_endOfAll wsX1_end := goodIn_r _ [36, 37, 38, 39, 40, 35, 41, 42, 50, 51, 52, 53, 54] (by decide +kernel) (by decide +kernel)
set_option maxRecDepth 20000 in
theorem gX3_endOfAll_X1_end : GoodIn wsX3_endOfAll (wsV RX3 159 RX1 yX1_end wsX1_end) := goodIn_app (goodIn_of _ (by decide +kernel)) ggX3_endOfAll_X1_end
theorem dX3_endOfAll_0 : decode cX3_endOfAll 0 = .ok (.iconst 0, 1) := by decide +kernel
theorem dX3_endOfAll_1 : decode cX3_endOfAll 1 = .ok (.istore_n 1, 1) := by decide +kernel
theorem dX3_endOfAll_2 : decode cX3_endOfAll 2 = .ok (.iconst 0, 1) := by decide +kernel
theorem dX3_endOfAll_3 : decode cX3_endOfAll 3 = .ok (.istore_n 2, 1) := by decide +kernel
theorem dX3_endOfAll_4 : decode cX3_endOfAll 4 = .ok (.iload_n 2, 1) := by decide +kernel
theorem dX3_endOfAll_5 : decode cX3_endOfAll 5 = .ok (.aload_n 0, 1) := by decide +kernel
theorem dX3_endOfAll_6 : decode cX3_endOfAll 6 = .ok (.getfield 28, 3) := by decide +kernel
theorem dX3_endOfAll_9 : decode cX3_endOfAll 9 = .ok (.invokevirtual 56, 3) := by decide +kernel
theorem dX3_endOfAll_12 : decode cX3_endOfAll 12 = .ok (.if_icmp .ge 35, 3) := by decide +kernel
theorem dX3_endOfAll_15 : decode cX3_endOfAll 15 = .ok (.iload_n 1, 1) := by decide +kernel
theorem dX3_endOfAll_16 : decode cX3_endOfAll 16 = .ok (.aload_n 0, 1) := by decide +kernel
theorem dX3_endOfAll_17 : decode cX3_endOfAll 17 = .ok (.getfield 28, 3) := by decide +kernel
theorem dX3_endOfAll_20 : decode cX3_endOfAll 20 = .ok (.iload_n 2, 1) := by decide +kernel
theorem dX3_endOfAll_21 : decode cX3_endOfAll 21 = .ok (.invokevirtual 219, 3) := by decide +kernel
theorem dX3_endOfAll_24 : decode cX3_endOfAll 24 = .ok (.checkcast 65, 3) := by decide +kernel
theorem dX3_endOfAll_27 : decode cX3_endOfAll 27 = .ok (.aload_n 0, 1) := by decide +kernel
theorem dX3_endOfAll_28 : decode cX3_endOfAll 28 = .ok (.getfield 12, 3) := by decide +kernel
theorem dX3_endOfAll_31 : decode cX3_endOfAll 31 = .ok (.getfield 39, 3) := by decide +kernel
theorem dX3_endOfAll_34 : decode cX3_endOfAll 34 = .ok (.invokevirtual 159, 3) := by decide +kernel
theorem dX3_endOfAll_37 : decode cX3_endOfAll 37 = .ok (.invokestatic 231, 3) := by decide +kernel
theorem dX3_endOfAll_40 : decode cX3_endOfAll 40 = .ok (.istore_n 1, 1) := by decide +kernel
theorem dX3_endOfAll_41 : decode cX3_endOfAll 41 = .ok (.iinc 2 1, 3) := by decide +kernel
theorem dX3_endOfAll_44 : decode cX3_endOfAll 44 = .ok (.goto (-40), 3) := by decide +kernel
theorem dX3_endOfAll_47 : decode cX3_endOfAll 47 = .ok (.iload_n 1, 1) := by decide +kernel
theorem dX3_endOfAll_48 : decode cX3_endOfAll 48 = .ok (.ireturn, 1) := by decide +kernel
set_option maxRecDepth 20000 in
theorem ggX3_isTaken_Jx4a65c_size_8abf5 : GoodIn wsX3_isTaken wsJx4a65c_size_8abf5 := goodIn_r _ [8, 9, 35, 36, 37] (by decide +kernel) (by decide +kernel)
set_option maxRecDepth 20000 in
theorem gX3_isTaken_Jx4a65c_size_8abf5 : GoodIn wsX3_isTaken (wsV RX3 56 RJx4a65c yJx4a65c_size_8abf5 wsJx4a65c_size_8abf5) := goodIn_app (goodIn_of _ (by decide +kernel)) ggX3_isTaken_Jx4a65c_size_8abf5
set_option maxRecDepth 20000 in
theorem ggX3_isTaken_Jx4a65c_get_915e3 : GoodIn wsX3_isTaken wsJx4a65c_get_915e3 := goodIn_r _ [13, 9, 14, 15, 16, 17, 18, 19, 20, 21, 22, 23, 24, 7, 25, 26, 35, 36, 37] (by decide +kernel) (by decide +kernel)
set_option maxRecDepth 20000 in
theorem gX3_isTaken_Jx4a65c_get_915e3 : GoodIn wsX3_isTaken (wsV RX3 219 RJx4a65c yJx4a65c_get_915e3 wsJx4a65c_get_915e3) := goodIn_app (goodIn_of _ (by decide +kernel)) ggX3_isTaken_Jx4a65c_get_915e3
theorem dX3_isTaken_0 : decode cX3_isTaken 0 = .ok (.iconst 0, 1) := by decide +kernel
theorem dX3_isTaken_1 : decode cX3_isTaken 1 = .ok (.istore_n 2, 1) := by decide +kernel
theorem dX3_isTaken_2 : decode cX3_isTaken 2 = .ok (.iload_n 2, 1) := by decide +kernel
theorem dX3_isTaken_3 : decode cX3_isTaken 3 = .ok (.aload_n 0, 1) := by decide +kernel
theorem dX3_isTaken_4 : decode cX3_isTaken 4 = .ok (.getfield 28, 3) := by decide +kernel
theorem dX3_isTaken_7 : decode cX3_isTaken 7 = .ok (.invokevirtual 56, 3) := by decide +kernel
theorem dX3_isTaken_10 : decode cX3_isTaken 10 = .ok (.if_icmp .ge 29, 3) := by decide +kernel
theorem dX3_isTaken_13 : decode cX3_isTaken 13 = .ok (.aload_n 0, 1) := by decide +kernel
theorem dX3_isTaken_14 : decode cX3_isTaken 14 = .ok (.getfield 28, 3) := by decide +kernel
theorem dX3_isTaken_17 : decode cX3_isTaken 17 = .ok (.iload_n 2, 1) := by decide +kernel
theorem dX3_isTaken_18 : decode cX3_isTaken 18 = .ok (.invokevirtual 219, 3) := by decide +kernel
theorem dX3_isTaken_21 : decode cX3_isTaken 21 = .ok (.checkcast 65, 3) := by decide +kernel
theorem dX3_isTaken_24 : decode cX3_isTaken 24 = .ok (.getfield 152, 3) := by decide +kernel
theorem dX3_isTaken_27 : decode cX3_isTaken 27 = .ok (.iload_n 1, 1) := by decide +kernel
theorem dX3_isTaken_28 : decode cX3_isTaken 28 = .ok (.if_icmp .ne 5, 3) := by decide +kernel
theorem dX3_isTaken_31 : decode cX3_isTaken 31 = .ok (.iconst 1, 1) := by decide +kernel
theorem dX3_isTaken_32 : decode cX3_isTaken 32 = .ok (.ireturn, 1) := by decide +kernel
theorem dX3_isTaken_33 : decode cX3_isTaken 33 = .ok (.iinc 2 1, 3) := by decide +kernel
theorem dX3_isTaken_36 : decode cX3_isTaken 36 = .ok (.goto (-34), 3) := by decide +kernel
theorem dX3_isTaken_39 : decode cX3_isTaken 39 = .ok (.iconst 0, 1) := by decide +kernel
theorem dX3_isTaken_40 : decode cX3_isTaken 40 = .ok (.ireturn, 1) := by decide +kernel
set_option maxRecDepth 20000 in
theorem ggX3_freeCodes_X3_isTaken : GoodIn wsX3_freeCodes wsX3_isTaken := goodIn_r _ [7, 8, 9, 10, 11, 12, 13, 14, 15, 16, 17, 18, 19, 20, 21, 22, 23, 24, 25, 26, 27, 28, 29, 30, 31, 32, 33, 34, 35, 36, 38, 39, 40, 41, 42, 43, 44, 45] (by decide +kernel) (by decide +kernel)
set_option maxRecDepth 20000 in
theorem gX3_freeCodes_X3_isTaken : GoodIn wsX3_freeCodes (wsV RX3 188 RX3 yX3_isTaken wsX3_isTaken) := goodIn_app (goodIn_of _ (by decide +kernel)) ggX3_freeCodes_X3_isTaken
theorem dX3_freeCodes_0 : decode cX3_freeCodes 0 = .ok (.iconst 0, 1) := by decide +kernel
theorem dX3_freeCodes_1 : decode cX3_freeCodes 1 = .ok (.istore_n 1, 1) := by decide +kernel
theorem dX3_freeCodes_2 : decode cX3_freeCodes 2 = .ok (.iconst 0, 1) := by decide +kernel
theorem dX3_freeCodes_3 : decode cX3_freeCodes 3 = .ok (.istore_n 2, 1) := by decide +kernel
theorem dX3_freeCodes_4 : decode cX3_freeCodes 4 = .ok (.iload_n 2, 1) := by decide +kernel
theorem dX3_freeCodes_5 : decode cX3_freeCodes 5 = .ok (.aload_n 0, 1) := by decide +kernel
theorem dX3_freeCodes_6 : decode cX3_freeCodes 6 = .ok (.getfield 12, 3) := by decide +kernel
theorem dX3_freeCodes_9 : decode cX3_freeCodes 9 = .ok (.getfield 39, 3) := by decide +kernel
theorem dX3_freeCodes_12 : decode cX3_freeCodes 12 = .ok (.if_icmp .ge 20, 3) := by decide +kernel
theorem dX3_freeCodes_15 : decode cX3_freeCodes 15 = .ok (.aload_n 0, 1) := by decide +kernel
theorem dX3_freeCodes_16 : decode cX3_freeCodes 16 = .ok (.iload_n 2, 1) := by decide +kernel
theorem dX3_freeCodes_17 : decode cX3_freeCodes 17 = .ok (.invokevirtual 188, 3) := by decide +kernel
theorem dX3_freeCodes_20 : decode cX3_freeCodes 20 = .ok (.ifCond .ne 6, 3) := by decide +kernel
theorem dX3_freeCodes_23 : decode cX3_freeCodes 23 = .ok (.iinc 1 1, 3) := by decide +kernel
theorem dX3_freeCodes_26 : decode cX3_freeCodes 26 = .ok (.iinc 2 1, 3) := by decide +kernel
theorem dX3_freeCodes_29 : decode cX3_freeCodes 29 = .ok (.goto (-25), 3) := by decide +kernel
theorem dX3_freeCodes_32 : decode cX3_freeCodes 32 = .ok (.iload_n 1, 1) := by decide +kernel
theorem dX3_freeCodes_33 : decode cX3_freeCodes 33 = .ok (.ireturn, 1) := by decide +kernel
set_option maxRecDepth 20000 in
theorem ggX3_likenessToAll_Jx4a65c_size_8abf5 : GoodIn wsX3_likenessToAll wsJx4a65c_size_8abf5 := goodIn_r _ [12, 13, 61, 62, 63] (by decide +kernel) (by decide +kernel)
set_option maxRecDepth 20000 in
theorem gX3_likenessToAll_Jx4a65c_size_8abf5 : GoodIn wsX3_likenessToAll (wsV RX3 56 RJx4a65c yJx4a65c_size_8abf5 wsJx4a65c_size_8abf5) := goodIn_app (goodIn_of _ (by decide +kernel)) ggX3_likenessToAll_Jx4a65c_size_8abf5
set_option maxRecDepth 20000 in
theorem ggX3_likenessToAll_Jx4a65c_get_915e3 : GoodIn wsX3_likenessToAll wsJx4a65c_get_915e3 := goodIn_r _ [17, 13, 18, 19, 20, 21, 22, 23, 24, 25, 26, 27, 28, 11, 29, 30, 61, 62, 63] (by decide +kernel) (by decide +kernel)
set_option maxRecDepth 20000 in
theorem gX3_likenessToAll_Jx4a65c_get_915e3 : GoodIn wsX3_likenessToAll (wsV RX3 219 RJx4a65c yJx4a65c_get_915e3 wsJx4a65c_get_915e3) := goodIn_app (goodIn_of _ (by decide +kernel)) ggX3_likenessToAll_Jx4a65c_get_915e3
set_option maxRecDepth 20000 in
theorem ggX3_likenessToAll_X0_likeness : GoodIn wsX3_likenessToAll wsX0_likeness := goodIn_r _ [35, 36, 37, 38, 39, 40, 41, 42, 43, 34, 44, 45, 46, 47, 48, 49, 50, 51, 60] (by decide +kernel) (by decide +kernel)
set_option maxRecDepth 20000 in
theorem gX3_likenessToAll_X0_likeness : GoodIn wsX3_likenessToAll (wsV RX3 184 RX0 yX0_likeness wsX0_likeness) := goodIn_app (goodIn_of _ (by decide +kernel)) ggX3_likenessToAll_X0_likeness
theorem dX3_likenessToAll_0 : decode cX3_likenessToAll 0 = .ok (.iconst 0, 1) := by decide +kernel
theorem dX3_likenessToAll_1 : decode cX3_likenessToAll 1 = .ok (.istore_n 3, 1) := by decide +kernel
theorem dX3_likenessToAll_2 : decode cX3_likenessToAll 2 = .ok (.iconst 0, 1) := by decide +kernel
theorem dX3_likenessToAll_3 : decode cX3_likenessToAll 3 = .ok (.istore 4, 2) := by decide +kernel
theorem dX3_likenessToAll_5 : decode cX3_likenessToAll 5 = .ok (.iload 4, 2) := by decide +kernel
theorem dX3_likenessToAll_7 : decode cX3_likenessToAll 7 = .ok (.aload_n 0, 1) := by decide +kernel
theorem dX3_likenessToAll_8 : decode cX3_likenessToAll 8 = .ok (.getfield 28, 3) := by decide +kernel
theorem dX3_likenessToAll_11 : decode cX3_likenessToAll 11 = .ok (.invokevirtual 56, 3) := by decide +kernel
theorem dX3_likenessToAll_14 : decode cX3_likenessToAll 14 = .ok (.if_icmp .ge 73, 3) := by decide +kernel
theorem dX3_likenessToAll_17 : decode cX3_likenessToAll 17 = .ok (.aload_n 0, 1) := by decide +kernel
theorem dX3_likenessToAll_18 : decode cX3_likenessToAll 18 = .ok (.getfield 28, 3) := by decide +kernel
theorem dX3_likenessToAll_21 : decode cX3_likenessToAll 21 = .ok (.iload 4, 2) := by decide +kernel
theorem dX3_likenessToAll_23 : decode cX3_likenessToAll 23 = .ok (.invokevirtual 219, 3) := by decide +kernel
theorem dX3_likenessToAll_26 : decode cX3_likenessToAll 26 = .ok (.checkcast 65, 3) := by decide +kernel
theorem dX3_likenessToAll_29 : decode cX3_likenessToAll 29 = .ok (.astore 5, 2) := by decide +kernel
theorem dX3_likenessToAll_31 : decode cX3_likenessToAll 31 = .ok (.iload_n 2, 1) := by decide +kernel
theorem dX3_likenessToAll_32 : decode cX3_likenessToAll 32 = .ok (.aload 5, 2) := by decide +kernel
theorem dX3_likenessToAll_34 : decode cX3_likenessToAll 34 = .ok (.getfield 103, 3) := by decide +kernel
theorem dX3_likenessToAll_37 : decode cX3_likenessToAll 37 = .ok (.isub, 1) := by decide +kernel
theorem dX3_likenessToAll_38 : decode cX3_likenessToAll 38 = .ok (.istore 6, 2) := by decide +kernel
theorem dX3_likenessToAll_40 : decode cX3_likenessToAll 40 = .ok (.iload 6, 2) := by decide +kernel
theorem dX3_likenessToAll_42 : decode cX3_likenessToAll 42 = .ok (.ifCond .ge 15, 3) := by decide +kernel
theorem dX3_likenessToAll_45 : decode cX3_likenessToAll 45 = .ok (.iload 6, 2) := by decide +kernel
theorem dX3_likenessToAll_47 : decode cX3_likenessToAll 47 = .ok (.aload_n 0, 1) := by decide +kernel
theorem dX3_likenessToAll_48 : decode cX3_likenessToAll 48 = .ok (.getfield 12, 3) := by decide +kernel
theorem dX3_likenessToAll_51 : decode cX3_likenessToAll 51 = .ok (.getfield 39, 3) := by decide +kernel
theorem dX3_likenessToAll_54 : decode cX3_likenessToAll 54 = .ok (.iadd, 1) := by decide +kernel
theorem dX3_likenessToAll_55 : decode cX3_likenessToAll 55 = .ok (.istore 6, 2) := by decide +kernel
theorem dX3_likenessToAll_57 : decode cX3_likenessToAll 57 = .ok (.iload_n 3, 1) := by decide +kernel
theorem dX3_likenessToAll_58 : decode cX3_likenessToAll 58 = .ok (.aload 5, 2) := by decide +kernel
theorem dX3_likenessToAll_60 : decode cX3_likenessToAll 60 = .ok (.getfield 89, 3) := by decide +kernel
theorem dX3_likenessToAll_63 : decode cX3_likenessToAll 63 = .ok (.aload_n 0, 1) := by decide +kernel
theorem dX3_likenessToAll_64 : decode cX3_likenessToAll 64 = .ok (.getfield 12, 3) := by decide +kernel
theorem dX3_likenessToAll_67 : decode cX3_likenessToAll 67 = .ok (.iload_n 1, 1) := by decide +kernel
theorem dX3_likenessToAll_68 : decode cX3_likenessToAll 68 = .ok (.aload 5, 2) := by decide +kernel
theorem dX3_likenessToAll_70 : decode cX3_likenessToAll 70 = .ok (.getfield 152, 3) := by decide +kernel
theorem dX3_likenessToAll_73 : decode cX3_likenessToAll 73 = .ok (.iload 6, 2) := by decide +kernel
theorem dX3_likenessToAll_75 : decode cX3_likenessToAll 75 = .ok (.invokevirtual 184, 3) := by decide +kernel
theorem dX3_likenessToAll_78 : decode cX3_likenessToAll 78 = .ok (.imul, 1) := by decide +kernel
theorem dX3_likenessToAll_79 : decode cX3_likenessToAll 79 = .ok (.iadd, 1) := by decide +kernel
theorem dX3_likenessToAll_80 : decode cX3_likenessToAll 80 = .ok (.istore_n 3, 1) := by decide +kernel
theorem dX3_likenessToAll_81 : decode cX3_likenessToAll 81 = .ok (.iinc 4 1, 3) := by decide +kernel
theorem dX3_likenessToAll_84 : decode cX3_likenessToAll 84 = .ok (.goto (-79), 3) := by decide +kernel
theorem dX3_likenessToAll_87 : decode cX3_likenessToAll 87 = .ok (.iload_n 3, 1) := by decide +kernel
theorem dX3_likenessToAll_88 : decode cX3_likenessToAll 88 = .ok (.ireturn, 1) := by decide +kernel
set_option maxRecDepth 20000 in
theorem ggX4_init_X4_table : GoodIn wsX4_init wsX4_table := goodIn_r _ [13, 5, 8, 14, 10, 11, 12] (by decide +kernel) (by decide +kernel)
set_option maxRecDepth 20000 in
theorem gX4_init_X4_table : GoodIn wsX4_init (va_wsS RX4 7 yX4_table wsX4_table) := goodIn_app (goodIn_of _ (by decide +kernel)) ggX4_init_X4_table
theorem dX4_init_0 : decode cX4_init 0 = .ok (.aload_n 0, 1) := by decide +kernel
theorem dX4_init_1 : decode cX4_init 1 = .ok (.invokespecial 1, 3) := by decide +kernel
theorem dX4_init_4 : decode cX4_init 4 = .ok (.aload_n 0, 1) := by decide +kernel
theorem dX4_init_5 : decode cX4_init 5 = .ok (.bipush 8, 2) := by decide +kernel
theorem dX4_init_7 : decode cX4_init 7 = .ok (.invokestatic 7, 3) := by decide +kernel
theorem dX4_init_10 : decode cX4_init 10 = .ok (.putfield 13, 3) := by decide +kernel
theorem dX4_init_13 : decode cX4_init 13 = .ok (.aload_n 0, 1) := by decide +kernel
theorem dX4_init_14 : decode cX4_init 14 = .ok (.iconst 0, 1) := by decide +kernel
theorem dX4_init_15 : decode cX4_init 15 = .ok (.anewarray 17, 3) := by decide +kernel
theorem dX4_init_18 : decode cX4_init 18 = .ok (.putfield 19, 3) := by decide +kernel
theorem dX4_init_21 : decode cX4_init 21 = .ok (.aload_n 0, 1) := by decide +kernel
theorem dX4_init_22 : decode cX4_init 22 = .ok (.iconst 0, 1) := by decide +kernel
theorem dX4_init_23 : decode cX4_init 23 = .ok (.anewarray 17, 3) := by decide +kernel
theorem dX4_init_26 : decode cX4_init 26 = .ok (.putfield 22, 3) := by decide +kernel
theorem dX4_init_29 : decode cX4_init 29 = .ok (.aload_n 0, 1) := by decide +kernel
theorem dX4_init_30 : decode cX4_init 30 = .ok (.bipush 20, 2) := by decide +kernel
theorem dX4_init_32 : decode cX4_init 32 = .ok (.newarray .int, 2) := by decide +kernel
theorem dX4_init_34 : decode cX4_init 34 = .ok (.putfield 25, 3) := by decide +kernel
theorem dX4_init_37 : decode cX4_init 37 = .ok (.return_, 1) := by decide +kernel
set_option maxRecDepth 20000 in
theorem ggX4_table_X4_table : GoodIn wsX4_table wsX4_table := goodIn_r _ [0, 1, 2, 3, 4, 5, 6] (by decide +kernel) (by decide +kernel)
set_option maxRecDepth 20000 in
theorem gX4_table_X4_table : GoodIn wsX4_table (va_wsS RX4 7 yX4_table wsX4_table) := goodIn_app (goodIn_of _ (by decide +kernel)) ggX4_table_X4_table
theorem dX4_table_0 : decode cX4_table 0 = .ok (.iload_n 0, 1) := by decide +kernel
theorem dX4_table_1 : decode cX4_table 1 = .ok (.iconst 1, 1) := by decide +kernel
theorem dX4_table_2 : decode cX4_table 2 = .ok (.if_icmp .ne 18, 3) := by decide +kernel
theorem dX4_table_5 : decode cX4_table 5 = .ok (.iconst 1, 1) := by decide +kernel
theorem dX4_table_6 : decode cX4_table 6 = .ok (.anewarray 17, 3) := by decide +kernel
theorem dX4_table_9 : decode cX4_table 9 = .ok (.dup, 1) := by decide +kernel
theorem dX4_table_10 : decode cX4_table 10 = .ok (.iconst 0, 1) := by decide +kernel
theorem dX4_table_11 : decode cX4_table 11 = .ok (.iconst 1, 1) := by decide +kernel
theorem dX4_table_12 : decode cX4_table 12 = .ok (.newarray .int, 2) := by decide +kernel
theorem dX4_table_14 : decode cX4_table 14 = .ok (.dup, 1) := by decide +kernel
theorem dX4_table_15 : decode cX4_table 15 = .ok (.iconst 0, 1) := by decide +kernel
theorem dX4_table_16 : decode cX4_table 16 = .ok (.iconst 1, 1) := by decide +kernel
