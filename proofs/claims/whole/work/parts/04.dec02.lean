theorem dX3_allWords_32 : decode cX3_allWords 32 = .ok (.iinc 2 1, 3) := by decide +kernel
theorem dX3_allWords_35 : decode cX3_allWords 35 = .ok (.goto (-31), 3) := by decide +kernel
theorem dX3_allWords_38 : decode cX3_allWords 38 = .ok (.iload_n 1, 1) := by decide +kernel
theorem dX3_allWords_39 : decode cX3_allWords 39 = .ok (.ireturn, 1) := by decide +kernel
set_option maxRecDepth 20000 in
theorem ggX3_allWrongWords_Jx4a65c_size_8abf5 : GoodIn wsX3_allWrongWords wsJx4a65c_size_8abf5 := goodIn_r _ [8, 9, 80, 81, 82] (by decide +kernel) (by decide +kernel)
set_option maxRecDepth 20000 in
theorem gX3_allWrongWords_Jx4a65c_size_8abf5 : GoodIn wsX3_allWrongWords (wsV RX3 56 RJx4a65c yJx4a65c_size_8abf5 wsJx4a65c_size_8abf5) := goodIn_app (goodIn_of _ (by decide +kernel)) ggX3_allWrongWords_Jx4a65c_size_8abf5
set_option maxRecDepth 20000 in
theorem ggX3_allWrongWords_Jx4a65c_get_915e3 : GoodIn wsX3_allWrongWords wsJx4a65c_get_915e3 := goodIn_r _ [13, 9, 14, 15, 16, 17, 18, 19, 20, 21, 22, 23, 24, 7, 25, 26, 80, 81, 82] (by decide +kernel) (by decide +kernel)
set_option maxRecDepth 20000 in
theorem gX3_allWrongWords_Jx4a65c_get_915e3 : GoodIn wsX3_allWrongWords (wsV RX3 219 RJx4a65c yJx4a65c_get_915e3 wsJx4a65c_get_915e3) := goodIn_app (goodIn_of _ (by decide +kernel)) ggX3_allWrongWords_Jx4a65c_get_915e3
set_option maxRecDepth 20000 in
theorem ggX3_allWrongWords_X2_wrongWords : GoodIn wsX3_allWrongWords wsX2_wrongWords := goodIn_r _ [31, 32, 33, 34, 35, 30, 36, 37, 38, 39, 40, 41, 42, 43, 44, 45, 46, 47, 48, 49, 50, 51, 52, 53, 54, 55, 56, 57, 58, 59, 60, 61, 62, 63, 64, 65, 66, 67, 68, 69, 70, 71, 72, 73, 74, 75, 76, 83, 84, 85, 86, 87, 88, 89, 90, 91] (by decide +kernel) (by decide +kernel)
set_option maxRecDepth 20000 in
theorem gX3_allWrongWords_X2_wrongWords : GoodIn wsX3_allWrongWords (wsV RX3 155 RX2 yX2_wrongWords wsX2_wrongWords) := goodIn_app (goodIn_of _ (by decide +kernel)) ggX3_allWrongWords_X2_wrongWords
theorem dX3_allWrongWords_0 : decode cX3_allWrongWords 0 = .ok (.iconst 0, 1) := by decide +kernel
theorem dX3_allWrongWords_1 : decode cX3_allWrongWords 1 = .ok (.istore_n 1, 1) := by decide +kernel
theorem dX3_allWrongWords_2 : decode cX3_allWrongWords 2 = .ok (.iconst 0, 1) := by decide +kernel
theorem dX3_allWrongWords_3 : decode cX3_allWrongWords 3 = .ok (.istore_n 2, 1) := by decide +kernel
theorem dX3_allWrongWords_4 : decode cX3_allWrongWords 4 = .ok (.iload_n 2, 1) := by decide +kernel
theorem dX3_allWrongWords_5 : decode cX3_allWrongWords 5 = .ok (.aload_n 0, 1) := by decide +kernel
theorem dX3_allWrongWords_6 : decode cX3_allWrongWords 6 = .ok (.getfield 28, 3) := by decide +kernel
theorem dX3_allWrongWords_9 : decode cX3_allWrongWords 9 = .ok (.invokevirtual 56, 3) := by decide +kernel
theorem dX3_allWrongWords_12 : decode cX3_allWrongWords 12 = .ok (.if_icmp .ge 30, 3) := by decide +kernel
theorem dX3_allWrongWords_15 : decode cX3_allWrongWords 15 = .ok (.iload_n 1, 1) := by decide +kernel
theorem dX3_allWrongWords_16 : decode cX3_allWrongWords 16 = .ok (.aload_n 0, 1) := by decide +kernel
theorem dX3_allWrongWords_17 : decode cX3_allWrongWords 17 = .ok (.getfield 21, 3) := by decide +kernel
theorem dX3_allWrongWords_20 : decode cX3_allWrongWords 20 = .ok (.aload_n 0, 1) := by decide +kernel
theorem dX3_allWrongWords_21 : decode cX3_allWrongWords 21 = .ok (.getfield 28, 3) := by decide +kernel
theorem dX3_allWrongWords_24 : decode cX3_allWrongWords 24 = .ok (.iload_n 2, 1) := by decide +kernel
theorem dX3_allWrongWords_25 : decode cX3_allWrongWords 25 = .ok (.invokevirtual 219, 3) := by decide +kernel
theorem dX3_allWrongWords_28 : decode cX3_allWrongWords 28 = .ok (.checkcast 65, 3) := by decide +kernel
theorem dX3_allWrongWords_31 : decode cX3_allWrongWords 31 = .ok (.invokevirtual 155, 3) := by decide +kernel
theorem dX3_allWrongWords_34 : decode cX3_allWrongWords 34 = .ok (.iadd, 1) := by decide +kernel
theorem dX3_allWrongWords_35 : decode cX3_allWrongWords 35 = .ok (.istore_n 1, 1) := by decide +kernel
theorem dX3_allWrongWords_36 : decode cX3_allWrongWords 36 = .ok (.iinc 2 1, 3) := by decide +kernel
theorem dX3_allWrongWords_39 : decode cX3_allWrongWords 39 = .ok (.goto (-35), 3) := by decide +kernel
theorem dX3_allWrongWords_42 : decode cX3_allWrongWords 42 = .ok (.iload_n 1, 1) := by decide +kernel
theorem dX3_allWrongWords_43 : decode cX3_allWrongWords 43 = .ok (.ireturn, 1) := by decide +kernel
set_option maxRecDepth 20000 in
theorem ggX3_wrongWordsWith_X2_addWords : GoodIn wsX3_wrongWordsWith wsX2_addWords := goodIn_r _ [7, 8, 9, 10, 11, 6, 12, 13, 14, 15, 16, 17, 18, 19, 20, 21, 22, 23, 24, 25, 26, 27, 28, 29, 30, 31, 32, 33, 34, 35, 36, 37, 38, 39, 92, 93, 94, 95, 96, 100, 101, 102, 103] (by decide +kernel) (by decide +kernel)
set_option maxRecDepth 20000 in
theorem gX3_wrongWordsWith_X2_addWords : GoodIn wsX3_wrongWordsWith (wsV RX3 96 RX2 yX2_addWords wsX2_addWords) := goodIn_app (goodIn_of _ (by decide +kernel)) ggX3_wrongWordsWith_X2_addWords
set_option maxRecDepth 20000 in
theorem ggX3_wrongWordsWith_X3_allWrongWords : GoodIn wsX3_wrongWordsWith wsX3_allWrongWords := goodIn_r _ [44, 45, 2, 46, 47, 48, 49, 50, 51, 52, 53, 54, 55, 56, 57, 58, 59, 60, 61, 62, 63, 64, 65, 66, 67, 68, 69, 70, 71, 72, 6, 73, 8, 74, 75, 76, 77, 16, 13, 14, 23, 24, 25, 20, 26, 27, 78, 79, 80, 81, 82, 83, 84, 85, 86, 15, 28, 29, 30, 31, 32, 33, 34, 35, 36, 37, 38, 39, 87, 88, 89, 90, 91, 18, 19, 21, 22, 97, 98, 99, 104, 105, 106, 92, 93, 94, 95, 96, 100, 101, 102, 103] (by decide +kernel) (by decide +kernel)
set_option maxRecDepth 20000 in
theorem gX3_wrongWordsWith_X3_allWrongWords : GoodIn wsX3_wrongWordsWith (wsV RX3 170 RX3 yX3_allWrongWords wsX3_allWrongWords) := goodIn_app (goodIn_of _ (by decide +kernel)) ggX3_wrongWordsWith_X3_allWrongWords
theorem dX3_wrongWordsWith_0 : decode cX3_wrongWordsWith 0 = .ok (.iload_n 2, 1) := by decide +kernel
theorem dX3_wrongWordsWith_1 : decode cX3_wrongWordsWith 1 = .ok (.aload_n 1, 1) := by decide +kernel
theorem dX3_wrongWordsWith_2 : decode cX3_wrongWordsWith 2 = .ok (.getfield 89, 3) := by decide +kernel
theorem dX3_wrongWordsWith_5 : decode cX3_wrongWordsWith 5 = .ok (.isub, 1) := by decide +kernel
theorem dX3_wrongWordsWith_6 : decode cX3_wrongWordsWith 6 = .ok (.istore_n 3, 1) := by decide +kernel
theorem dX3_wrongWordsWith_7 : decode cX3_wrongWordsWith 7 = .ok (.aload_n 0, 1) := by decide +kernel
theorem dX3_wrongWordsWith_8 : decode cX3_wrongWordsWith 8 = .ok (.getfield 21, 3) := by decide +kernel
theorem dX3_wrongWordsWith_11 : decode cX3_wrongWordsWith 11 = .ok (.aload_n 1, 1) := by decide +kernel
theorem dX3_wrongWordsWith_12 : decode cX3_wrongWordsWith 12 = .ok (.iload_n 3, 1) := by decide +kernel
theorem dX3_wrongWordsWith_13 : decode cX3_wrongWordsWith 13 = .ok (.invokevirtual 96, 3) := by decide +kernel
theorem dX3_wrongWordsWith_16 : decode cX3_wrongWordsWith 16 = .ok (.aload_n 0, 1) := by decide +kernel
theorem dX3_wrongWordsWith_17 : decode cX3_wrongWordsWith 17 = .ok (.invokevirtual 170, 3) := by decide +kernel
theorem dX3_wrongWordsWith_20 : decode cX3_wrongWordsWith 20 = .ok (.istore 4, 2) := by decide +kernel
theorem dX3_wrongWordsWith_22 : decode cX3_wrongWordsWith 22 = .ok (.aload_n 0, 1) := by decide +kernel
theorem dX3_wrongWordsWith_23 : decode cX3_wrongWordsWith 23 = .ok (.getfield 21, 3) := by decide +kernel
theorem dX3_wrongWordsWith_26 : decode cX3_wrongWordsWith 26 = .ok (.aload_n 1, 1) := by decide +kernel
theorem dX3_wrongWordsWith_27 : decode cX3_wrongWordsWith 27 = .ok (.iload_n 3, 1) := by decide +kernel
theorem dX3_wrongWordsWith_28 : decode cX3_wrongWordsWith 28 = .ok (.ineg, 1) := by decide +kernel
theorem dX3_wrongWordsWith_29 : decode cX3_wrongWordsWith 29 = .ok (.invokevirtual 96, 3) := by decide +kernel
theorem dX3_wrongWordsWith_32 : decode cX3_wrongWordsWith 32 = .ok (.iload 4, 2) := by decide +kernel
theorem dX3_wrongWordsWith_34 : decode cX3_wrongWordsWith 34 = .ok (.ireturn, 1) := by decide +kernel
set_option maxRecDepth 20000 in
theorem ggX3_endOfAll_Jx4a65c_size_8abf5 : GoodIn wsX3_endOfAll wsJx4a65c_size_8abf5 := goodIn_r _ [13, 14, 47, 48, 49] (by decide +kernel) (by decide +kernel)
set_option maxRecDepth 20000 in
theorem gX3_endOfAll_Jx4a65c_size_8abf5 : GoodIn wsX3_endOfAll (wsV RX3 56 RJx4a65c yJx4a65c_size_8abf5 wsJx4a65c_size_8abf5) := goodIn_app (goodIn_of _ (by decide +kernel)) ggX3_endOfAll_Jx4a65c_size_8abf5
set_option maxRecDepth 20000 in
theorem ggX3_endOfAll_Jx4a65c_get_915e3 : GoodIn wsX3_endOfAll wsJx4a65c_get_915e3 := goodIn_r _ [18, 14, 19, 20, 21, 22, 23, 24, 25, 26, 27, 28, 29, 12, 30, 31, 47, 48, 49] (by decide +kernel) (by decide +kernel)
set_option maxRecDepth 20000 in
theorem gX3_endOfAll_Jx4a65c_get_915e3 : GoodIn wsX3_endOfAll (wsV RX3 219 RJx4a65c yJx4a65c_get_915e3 wsJx4a65c_get_915e3) := goodIn_app (goodIn_of _ (by decide +kernel)) ggX3_endOfAll_Jx4a65c_get_915e3
set_option maxRecDepth 20000 in
theorem ggX3_endOfAll_X1_end : GoodIn wsX3_endOfAll wsX1_end := goodIn_r _ [36, 37, 38, 39, 40, 35, 41, 42, 50, 51, 52, 53, 54] (by decide +kernel) (by decide +kernel)
set_option maxRecDepth 20000 in
theorem gX3_endOfAll_X1_end : GoodIn wsX3_endOfAll (wsV RX3 159 RX1 yX1_end wsX1_end) := goodIn_app (goodIn_of _ (by decide +kernel)) ggX3_endOfAll_X1_end
theorem dX3_endOfAll_0 : decode cX3_endOfAll 0 = .ok (.iconst 0, 1) := by decide +kernel
theorem dX3_endOfAll_1 : decode cX3_endOfAll 1 = .ok (.istore_n 1, 1) := by decide +kernel
theorem dX3_endOfAll_2 : decode cX3_endOfAll 2 = .ok (.iconst 0, 1) := by decide +kernel
theorem dX3_endOfAll_3 : decode cX3_endOfAll 3 = .ok (.istore_n 2, 1) := by decide +kernel
theorem dX3_endOfAll_4 : decode cX3_endOfAll 4 = .ok (.iload_n 2, 1) := by decide +kernel
theorem dX3_endOfAll_5 : decode cX3_endOfAll 5 = .ok (.aload_n 0, 1) := by decide +kernel
theorem dX3_endOfAll_6 : decode cX3_endOfAll 6 = .ok (.getfield 28, 3) := by decide +kernel
theorem dX3_endOfAll_9 : decode cX3_endOfAll 9 = .ok (.invokevirtual 56, 3) := by decide +kernel
theorem dX3_endOfAll_12 : decode cX3_endOfAll 12 = .ok (.if_icmp .ge 35, 3) := by decide +kernel
theorem dX3_endOfAll_15 : decode cX3_endOfAll 15 = .ok (.iload_n 1, 1) := by decide +kernel
theorem dX3_endOfAll_16 : decode cX3_endOfAll 16 = .ok (.aload_n 0, 1) := by decide +kernel
theorem dX3_endOfAll_17 : decode cX3_endOfAll 17 = .ok (.getfield 28, 3) := by decide +kernel
theorem dX3_endOfAll_20 : decode cX3_endOfAll 20 = .ok (.iload_n 2, 1) := by decide +kernel
theorem dX3_endOfAll_21 : decode cX3_endOfAll 21 = .ok (.invokevirtual 219, 3) := by decide +kernel
theorem dX3_endOfAll_24 : decode cX3_endOfAll 24 = .ok (.checkcast 65, 3) := by decide +kernel
theorem dX3_endOfAll_27 : decode cX3_endOfAll 27 = .ok (.aload_n 0, 1) := by decide +kernel
theorem dX3_endOfAll_28 : decode cX3_endOfAll 28 = .ok (.getfield 12, 3) := by decide +kernel
theorem dX3_endOfAll_31 : decode cX3_endOfAll 31 = .ok (.getfield 39, 3) := by decide +kernel
theorem dX3_endOfAll_34 : decode cX3_endOfAll 34 = .ok (.invokevirtual 159, 3) := by decide +kernel
theorem dX3_endOfAll_37 : decode cX3_endOfAll 37 = .ok (.invokestatic 231, 3) := by decide +kernel
theorem dX3_endOfAll_40 : decode cX3_endOfAll 40 = .ok (.istore_n 1, 1) := by decide +kernel
theorem dX3_endOfAll_41 : decode cX3_endOfAll 41 = .ok (.iinc 2 1, 3) := by decide +kernel
theorem dX3_endOfAll_44 : decode cX3_endOfAll 44 = .ok (.goto (-40), 3) := by decide +kernel
theorem dX3_endOfAll_47 : decode cX3_endOfAll 47 = .ok (.iload_n 1, 1) := by decide +kernel
theorem dX3_endOfAll_48 : decode cX3_endOfAll 48 = .ok (.ireturn, 1) := by decide +kernel
set_option maxRecDepth 20000 in
theorem ggX3_isTaken_Jx4a65c_size_8abf5 : GoodIn wsX3_isTaken wsJx4a65c_size_8abf5 := goodIn_r _ [8, 9, 35, 36, 37] (by decide +kernel) (by decide +kernel)
set_option maxRecDepth 20000 in
theorem gX3_isTaken_Jx4a65c_size_8abf5 : GoodIn wsX3_isTaken (wsV RX3 56 RJx4a65c yJx4a65c_size_8abf5 wsJx4a65c_size_8abf5) := goodIn_app (goodIn_of _ (by decide +kernel)) ggX3_isTaken_Jx4a65c_size_8abf5
set_option maxRecDepth 20000 in
theorem ggX3_isTaken_Jx4a65c_get_915e3 : GoodIn wsX3_isTaken wsJx4a65c_get_915e3 := goodIn_r _ [13, 9, 14, 15, 16, 17, 18, 19, 20, 21, 22, 23, 24, 7, 25, 26, 35, 36, 37] (by decide +kernel) (by decide +kernel)
set_option maxRecDepth 20000 in
theorem gX3_isTaken_Jx4a65c_get_915e3 : GoodIn wsX3_isTaken (wsV RX3 219 RJx4a65c yJx4a65c_get_915e3 wsJx4a65c_get_915e3) := goodIn_app (goodIn_of _ (by decide +kernel)) ggX3_isTaken_Jx4a65c_get_915e3
theorem dX3_isTaken_0 : decode cX3_isTaken 0 = .ok (.iconst 0, 1) := by decide +kernel
theorem dX3_isTaken_1 : decode cX3_isTaken 1 = .ok (.istore_n 2, 1) := by decide +kernel
theorem dX3_isTaken_2 : decode cX3_isTaken 2 = .ok (.iload_n 2, 1) := by decide +kernel
theorem dX3_isTaken_3 : decode cX3_isTaken 3 = .ok (.aload_n 0, 1) := by decide +kernel
theorem dX3_isTaken_4 : decode cX3_isTaken 4 = .ok (.getfield 28, 3) := by decide +kernel
theorem dX3_isTaken_7 : decode cX3_isTaken 7 = .ok (.invokevirtual 56, 3) := by decide +kernel
theorem dX3_isTaken_10 : decode cX3_isTaken 10 = .ok (.if_icmp .ge 29, 3) := by decide +kernel
theorem dX3_isTaken_13 : decode cX3_isTaken 13 = .ok (.aload_n 0, 1) := by decide +kernel
theorem dX3_isTaken_14 : decode cX3_isTaken 14 = .ok (.getfield 28, 3) := by decide +kernel
theorem dX3_isTaken_17 : decode cX3_isTaken 17 = .ok (.iload_n 2, 1) := by decide +kernel
theorem dX3_isTaken_18 : decode cX3_isTaken 18 = .ok (.invokevirtual 219, 3) := by decide +kernel
theorem dX3_isTaken_21 : decode cX3_isTaken 21 = .ok (.checkcast 65, 3) := by decide +kernel
theorem dX3_isTaken_24 : decode cX3_isTaken 24 = .ok (.getfield 152, 3) := by decide +kernel
theorem dX3_isTaken_27 : decode cX3_isTaken 27 = .ok (.iload_n 1, 1) := by decide +kernel
theorem dX3_isTaken_28 : decode cX3_isTaken 28 = .ok (.if_icmp .ne 5, 3) := by decide +kernel
theorem dX3_isTaken_31 : decode cX3_isTaken 31 = .ok (.iconst 1, 1) := by decide +kernel
theorem dX3_isTaken_32 : decode cX3_isTaken 32 = .ok (.ireturn, 1) := by decide +kernel
theorem dX3_isTaken_33 : decode cX3_isTaken 33 = .ok (.iinc 2 1, 3) := by decide +kernel
theorem dX3_isTaken_36 : decode cX3_isTaken 36 = .ok (.goto (-34), 3) := by decide +kernel
theorem dX3_isTaken_39 : decode cX3_isTaken 39 = .ok (.iconst 0, 1) := by decide +kernel
theorem dX3_isTaken_40 : decode cX3_isTaken 40 = .ok (.ireturn, 1) := by decide +kernel
set_option maxRecDepth 20000 in
theorem ggX3_freeCodes_X3_isTaken : GoodIn wsX3_freeCodes wsX3_isTaken := goodIn_r _ [7, 8, 9, 10, 11, 12, 13, 14, 15, 16, 17, 18, 19, 20, 21, 22, 23, 24, 25, 26, 27, 28, 29, 30, 31, 32, 33, 34, 35, 36, 38, 39, 40, 41, 42, 43, 44, 45] (by decide +kernel) (by decide +kernel)
set_option maxRecDepth 20000 in
theorem gX3_freeCodes_X3_isTaken : GoodIn wsX3_freeCodes (wsV RX3 188 RX3 yX3_isTaken wsX3_isTaken) := goodIn_app (goodIn_of _ (by decide +kernel)) ggX3_freeCodes_X3_isTaken
theorem dX3_freeCodes_0 : decode cX3_freeCodes 0 = .ok (.iconst 0, 1) := by decide +kernel
theorem dX3_freeCodes_1 : decode cX3_freeCodes 1 = .ok (.istore_n 1, 1) := by decide +kernel
theorem dX3_freeCodes_2 : decode cX3_freeCodes 2 = .ok (.iconst 0, 1) := by decide +kernel
theorem dX3_freeCodes_3 : decode cX3_freeCodes 3 = .ok (.istore_n 2, 1) := by decide +kernel
theorem dX3_freeCodes_4 : decode cX3_freeCodes 4 = .ok (.iload_n 2, 1) := by decide +kernel
theorem dX3_freeCodes_5 : decode cX3_freeCodes 5 = .ok (.aload_n 0, 1) := by decide +kernel
theorem dX3_freeCodes_6 : decode cX3_freeCodes 6 = .ok (.getfield 12, 3) := by decide +kernel
theorem dX3_freeCodes_9 : decode cX3_freeCodes 9 = .ok (.getfield 39, 3) := by decide +kernel
theorem dX3_freeCodes_12 : decode cX3_freeCodes 12 = .ok (.if_icmp .ge 20, 3) := by decide +kernel
theorem dX3_freeCodes_15 : decode cX3_freeCodes 15 = .ok (.aload_n 0, 1) := by decide +kernel
theorem dX3_freeCodes_16 : decode cX3_freeCodes 16 = .ok (.iload_n 2, 1) := by decide +kernel
theorem dX3_freeCodes_17 : decode cX3_freeCodes 17 = .ok (.invokevirtual 188, 3) := by decide +kernel
theorem dX3_freeCodes_20 : decode cX3_freeCodes 20 = .ok (.ifCond .ne 6, 3) := by decide +kernel
theorem dX3_freeCodes_23 : decode cX3_freeCodes 23 = .ok (.iinc 1 1, 3) := by decide +kernel
theorem dX3_freeCodes_26 : decode cX3_freeCodes 26 = .ok (.iinc 2 1, 3) := by decide +kernel
theorem dX3_freeCodes_29 : decode cX3_freeCodes 29 = .ok (.goto (-25), 3) := by decide +kernel
theorem dX3_freeCodes_32 : decode cX3_freeCodes 32 = .ok (.iload_n 1, 1) := by decide +kernel
theorem dX3_freeCodes_33 : decode cX3_freeCodes 33 = .ok (.ireturn, 1) := by decide +kernel
set_option maxRecDepth 20000 in
theorem ggX3_likenessToAll_Jx4a65c_size_8abf5 : GoodIn wsX3_likenessToAll wsJx4a65c_size_8abf5 := goodIn_r _ [12, 13, 61, 62, 63] (by decide +kernel) (by decide +kernel)
set_option maxRecDepth 20000 in
theorem gX3_likenessToAll_Jx4a65c_size_8abf5 : GoodIn wsX3_likenessToAll (wsV RX3 56 RJx4a65c yJx4a65c_size_8abf5 wsJx4a65c_size_8abf5) := goodIn_app (goodIn_of _ (by decide +kernel)) ggX3_likenessToAll_Jx4a65c_size_8abf5
set_option maxRecDepth 20000 in
theorem ggX3_likenessToAll_Jx4a65c_get_915e3 : GoodIn wsX3_likenessToAll wsJx4a65c_get_915e3 := goodIn_r _ [17, 13, 18, 19, 20, 21, 22, 23, 24, 25, 26, 27, 28, 11, 29, 30, 61, 62, 63] (by decide +kernel) (by decide +kernel)
set_option maxRecDepth 20000 in
theorem gX3_likenessToAll_Jx4a65c_get_915e3 : GoodIn wsX3_likenessToAll (wsV RX3 219 RJx4a65c yJx4a65c_get_915e3 wsJx4a65c_get_915e3) := goodIn_app (goodIn_of _ (by decide +kernel)) ggX3_likenessToAll_Jx4a65c_get_915e3
set_option maxRecDepth 20000 in
theorem ggX3_likenessToAll_X0_likeness : GoodIn wsX3_likenessToAll wsX0_likeness := goodIn_r _ [35, 36, 37, 38, 39, 40, 41, 42, 43, 34, 44, 45, 46, 47, 48, 49, 50, 51, 60] (by decide +kernel) (by decide +kernel)
set_option maxRecDepth 20000 in
theorem gX3_likenessToAll_X0_likeness : GoodIn wsX3_likenessToAll (wsV RX3 184 RX0 yX0_likeness wsX0_likeness) := goodIn_app (goodIn_of _ (by decide +kernel)) ggX3_likenessToAll_X0_likeness
theorem dX3_likenessToAll_0 : decode cX3_likenessToAll 0 = .ok (.iconst 0, 1) := by decide +kernel
theorem dX3_likenessToAll_1 : decode cX3_likenessToAll 1 = .ok (.istore_n 3, 1) := by decide +kernel
theorem dX3_likenessToAll_2 : decode cX3_likenessToAll 2 = .ok (.iconst 0, 1) := by decide +kernel
theorem dX3_likenessToAll_3 : decode cX3_likenessToAll 3 = .ok (.istore 4, 2) := by decide +kernel
theorem dX3_likenessToAll_5 : decode cX3_likenessToAll 5 = .ok (.iload 4, 2) := by decide +kernel
theorem dX3_likenessToAll_7 : decode cX3_likenessToAll 7 = .ok (.aload_n 0, 1) := by decide +kernel
theorem dX3_likenessToAll_8 : decode cX3_likenessToAll 8 = .ok (.getfield 28, 3) := by decide +kernel
theorem dX3_likenessToAll_11 : decode cX3_likenessToAll 11 = .ok (.invokevirtual 56, 3) := by decide +kernel
theorem dX3_likenessToAll_14 : decode cX3_likenessToAll 14 = .ok (.if_icmp .ge 73, 3) := by decide +kernel
theorem dX3_likenessToAll_17 : decode cX3_likenessToAll 17 = .ok (.aload_n 0, 1) := by decide +kernel
theorem dX3_likenessToAll_18 : decode cX3_likenessToAll 18 = .ok (.getfield 28, 3) := by decide +kernel
theorem dX3_likenessToAll_21 : decode cX3_likenessToAll 21 = .ok (.iload 4, 2) := by decide +kernel
theorem dX3_likenessToAll_23 : decode cX3_likenessToAll 23 = .ok (.invokevirtual 219, 3) := by decide +kernel
theorem dX3_likenessToAll_26 : decode cX3_likenessToAll 26 = .ok (.checkcast 65, 3) := by decide +kernel
theorem dX3_likenessToAll_29 : decode cX3_likenessToAll 29 = .ok (.astore 5, 2) := by decide +kernel
theorem dX3_likenessToAll_31 : decode cX3_likenessToAll 31 = .ok (.iload_n 2, 1) := by decide +kernel
theorem dX3_likenessToAll_32 : decode cX3_likenessToAll 32 = .ok (.aload 5, 2) := by decide +kernel
theorem dX3_likenessToAll_34 : decode cX3_likenessToAll 34 = .ok (.getfield 103, 3) := by decide +kernel
theorem dX3_likenessToAll_37 : decode cX3_likenessToAll 37 = .ok (.isub, 1) := by decide +kernel
theorem dX3_likenessToAll_38 : decode cX3_likenessToAll 38 = .ok (.istore 6, 2) := by decide +kernel
theorem dX3_likenessToAll_40 : decode cX3_likenessToAll 40 = .ok (.iload 6, 2) := by decide +kernel
theorem dX3_likenessToAll_42 : decode cX3_likenessToAll 42 = .ok (.ifCond .ge 15, 3) := by decide +kernel
theorem dX3_likenessToAll_45 : decode cX3_likenessToAll 45 = .ok (.iload 6, 2) := by decide +kernel
theorem dX3_likenessToAll_47 : decode cX3_likenessToAll 47 = .ok (.aload_n 0, 1) := by decide +kernel
theorem dX3_likenessToAll_48 : decode cX3_likenessToAll 48 = .ok (.getfield 12, 3) := by decide +kernel
theorem dX3_likenessToAll_51 : decode cX3_likenessToAll 51 = .ok (.getfield 39, 3) := by decide +kernel
theorem dX3_likenessToAll_54 : decode cX3_likenessToAll 54 = .ok (.iadd, 1) := by decide +kernel
theorem dX3_likenessToAll_55 : decode cX3_likenessToAll 55 = .ok (.istore 6, 2) := by decide +kernel
theorem dX3_likenessToAll_57 : decode cX3_likenessToAll 57 = .ok (.iload_n 3, 1) := by decide +kernel
theorem dX3_likenessToAll_58 : decode cX3_likenessToAll 58 = .ok (.aload 5, 2) := by decide +kernel
theorem dX3_likenessToAll_60 : decode cX3_likenessToAll 60 = .ok (.getfield 89, 3) := by decide +kernel
theorem dX3_likenessToAll_63 : decode cX3_likenessToAll 63 = .ok (.aload_n 0, 1) := by decide +kernel
theorem dX3_likenessToAll_64 : decode cX3_likenessToAll 64 = .ok (.getfield 12, 3) := by decide +kernel
theorem dX3_likenessToAll_67 : decode cX3_likenessToAll 67 = .ok (.iload_n 1, 1) := by decide +kernel
theorem dX3_likenessToAll_68 : decode cX3_likenessToAll 68 = .ok (.aload 5, 2) := by decide +kernel
theorem dX3_likenessToAll_70 : decode cX3_likenessToAll 70 = .ok (.getfield 152, 3) := by decide +kernel
theorem dX3_likenessToAll_73 : decode cX3_likenessToAll 73 = .ok (.iload 6, 2) := by decide +kernel
theorem dX3_likenessToAll_75 : decode cX3_likenessToAll 75 = .ok (.invokevirtual 184, 3) := by decide +kernel
theorem dX3_likenessToAll_78 : decode cX3_likenessToAll 78 = .ok (.imul, 1) := by decide +kernel
theorem dX3_likenessToAll_79 : decode cX3_likenessToAll 79 = .ok (.iadd, 1) := by decide +kernel
theorem dX3_likenessToAll_80 : decode cX3_likenessToAll 80 = .ok (.istore_n 3, 1) := by decide +kernel
theorem dX3_likenessToAll_81 : decode cX3_likenessToAll 81 = .ok (.iinc 4 1, 3) := by decide +kernel
theorem dX3_likenessToAll_84 : decode cX3_likenessToAll 84 = .ok (.goto (-79), 3) := by decide +kernel
theorem dX3_likenessToAll_87 : decode cX3_likenessToAll 87 = .ok (.iload_n 3, 1) := by decide +kernel
theorem dX3_likenessToAll_88 : decode cX3_likenessToAll 88 = .ok (.ireturn, 1) := by decide +kernel
theorem dX4_init_0 : decode cX4_init 0 = .ok (.aload_n 0, 1) := by decide +kernel
theorem dX4_init_1 : decode cX4_init 1 = .ok (.invokespecial 1, 3) := by decide +kernel
theorem dX4_init_4 : decode cX4_init 4 = .ok (.aload_n 0, 1) := by decide +kernel
theorem dX4_init_5 : decode cX4_init 5 = .ok (.bipush 8, 2) := by decide +kernel
theorem dX4_init_7 : decode cX4_init 7 = .ok (.putfield 7, 3) := by decide +kernel
theorem dX4_init_10 : decode cX4_init 10 = .ok (.aload_n 0, 1) := by decide +kernel
theorem dX4_init_11 : decode cX4_init 11 = .ok (.bipush 8, 2) := by decide +kernel
theorem dX4_init_13 : decode cX4_init 13 = .ok (.newarray .int, 2) := by decide +kernel
theorem dX4_init_15 : decode cX4_init 15 = .ok (.putfield 13, 3) := by decide +kernel
theorem dX4_init_18 : decode cX4_init 18 = .ok (.aload_n 0, 1) := by decide +kernel
theorem dX4_init_19 : decode cX4_init 19 = .ok (.bipush 8, 2) := by decide +kernel
theorem dX4_init_21 : decode cX4_init 21 = .ok (.newarray .int, 2) := by decide +kernel
theorem dX4_init_23 : decode cX4_init 23 = .ok (.putfield 17, 3) := by decide +kernel
theorem dX4_init_26 : decode cX4_init 26 = .ok (.aload_n 0, 1) := by decide +kernel
theorem dX4_init_27 : decode cX4_init 27 = .ok (.bipush 8, 2) := by decide +kernel
theorem dX4_init_29 : decode cX4_init 29 = .ok (.newarray .int, 2) := by decide +kernel
theorem dX4_init_31 : decode cX4_init 31 = .ok (.putfield 20, 3) := by decide +kernel
theorem dX4_init_34 : decode cX4_init 34 = .ok (.aload_n 0, 1) := by decide +kernel
theorem dX4_init_35 : decode cX4_init 35 = .ok (.bipush 8, 2) := by decide +kernel
theorem dX4_init_37 : decode cX4_init 37 = .ok (.newarray .int, 2) := by decide +kernel
theorem dX4_init_39 : decode cX4_init 39 = .ok (.putfield 23, 3) := by decide +kernel
theorem dX4_init_42 : decode cX4_init 42 = .ok (.aload_n 0, 1) := by decide +kernel
theorem dX4_init_43 : decode cX4_init 43 = .ok (.bipush 96, 2) := by decide +kernel
theorem dX4_init_45 : decode cX4_init 45 = .ok (.newarray .int, 2) := by decide +kernel
theorem dX4_init_47 : decode cX4_init 47 = .ok (.putfield 26, 3) := by decide +kernel
theorem dX4_init_50 : decode cX4_init 50 = .ok (.aload_n 0, 1) := by decide +kernel
theorem dX4_init_51 : decode cX4_init 51 = .ok (.bipush 20, 2) := by decide +kernel
theorem dX4_init_53 : decode cX4_init 53 = .ok (.newarray .int, 2) := by decide +kernel
theorem dX4_init_55 : decode cX4_init 55 = .ok (.putfield 29, 3) := by decide +kernel
theorem dX4_init_58 : decode cX4_init 58 = .ok (.return_, 1) := by decide +kernel
theorem dX4_thrown_0 : decode cX4_thrown 0 = .ok (.aload_n 0, 1) := by decide +kernel
theorem dX4_thrown_1 : decode cX4_thrown 1 = .ok (.getfield 32, 3) := by decide +kernel
theorem dX4_thrown_4 : decode cX4_thrown 4 = .ok (.ireturn, 1) := by decide +kernel
theorem dX4_no_0 : decode cX4_no 0 = .ok (.aload_n 0, 1) := by decide +kernel
theorem dX4_no_1 : decode cX4_no 1 = .ok (.iload_n 1, 1) := by decide +kernel
theorem dX4_no_2 : decode cX4_no 2 = .ok (.putfield 32, 3) := by decide +kernel
theorem dX4_no_5 : decode cX4_no 5 = .ok (.iconst 0, 1) := by decide +kernel
theorem dX4_no_6 : decode cX4_no 6 = .ok (.ireturn, 1) := by decide +kernel
theorem dX4_isIn_0 : decode cX4_isIn 0 = .ok (.iload_n 0, 1) := by decide +kernel
theorem dX4_isIn_1 : decode cX4_isIn 1 = .ok (.iload_n 1, 1) := by decide +kernel
theorem dX4_isIn_2 : decode cX4_isIn 2 = .ok (.if_icmp .lt 12, 3) := by decide +kernel
theorem dX4_isIn_5 : decode cX4_isIn 5 = .ok (.iload_n 0, 1) := by decide +kernel
theorem dX4_isIn_6 : decode cX4_isIn 6 = .ok (.iload_n 2, 1) := by decide +kernel
theorem dX4_isIn_7 : decode cX4_isIn 7 = .ok (.if_icmp .gt 7, 3) := by decide +kernel
theorem dX4_isIn_10 : decode cX4_isIn 10 = .ok (.iconst 1, 1) := by decide +kernel
theorem dX4_isIn_11 : decode cX4_isIn 11 = .ok (.goto 4, 3) := by decide +kernel
theorem dX4_isIn_14 : decode cX4_isIn 14 = .ok (.iconst 0, 1) := by decide +kernel
theorem dX4_isIn_15 : decode cX4_isIn 15 = .ok (.ireturn, 1) := by decide +kernel
set_option maxRecDepth 20000 in
theorem ggX4_isCode_X4_isIn : GoodIn wsX4_isCode wsX4_isIn := goodIn_r _ [5] (by decide +kernel) (by decide +kernel)
set_option maxRecDepth 20000 in
theorem gX4_isCode_X4_isIn : GoodIn wsX4_isCode (va_wsS RX4 35 yX4_isIn wsX4_isIn) := goodIn_app (goodIn_of _ (by decide +kernel)) ggX4_isCode_X4_isIn
theorem dX4_isCode_0 : decode cX4_isCode 0 = .ok (.iload_n 1, 1) := by decide +kernel
theorem dX4_isCode_1 : decode cX4_isCode 1 = .ok (.iconst 0, 1) := by decide +kernel
theorem dX4_isCode_2 : decode cX4_isCode 2 = .ok (.aload_n 0, 1) := by decide +kernel
theorem dX4_isCode_3 : decode cX4_isCode 3 = .ok (.getfield 7, 3) := by decide +kernel
theorem dX4_isCode_6 : decode cX4_isCode 6 = .ok (.iconst 1, 1) := by decide +kernel
theorem dX4_isCode_7 : decode cX4_isCode 7 = .ok (.isub, 1) := by decide +kernel
theorem dX4_isCode_8 : decode cX4_isCode 8 = .ok (.invokestatic 35, 3) := by decide +kernel
theorem dX4_isCode_11 : decode cX4_isCode 11 = .ok (.ireturn, 1) := by decide +kernel
set_option maxRecDepth 20000 in
theorem ggX4_isHill_X4_isIn : GoodIn wsX4_isHill wsX4_isIn := goodIn_r _ [5] (by decide +kernel) (by decide +kernel)
set_option maxRecDepth 20000 in
theorem gX4_isHill_X4_isIn : GoodIn wsX4_isHill (va_wsS RX4 35 yX4_isIn wsX4_isIn) := goodIn_app (goodIn_of _ (by decide +kernel)) ggX4_isHill_X4_isIn
theorem dX4_isHill_0 : decode cX4_isHill 0 = .ok (.iload_n 1, 1) := by decide +kernel
theorem dX4_isHill_1 : decode cX4_isHill 1 = .ok (.iconst 0, 1) := by decide +kernel
theorem dX4_isHill_2 : decode cX4_isHill 2 = .ok (.aload_n 0, 1) := by decide +kernel
theorem dX4_isHill_3 : decode cX4_isHill 3 = .ok (.getfield 39, 3) := by decide +kernel
theorem dX4_isHill_6 : decode cX4_isHill 6 = .ok (.iconst 1, 1) := by decide +kernel
theorem dX4_isHill_7 : decode cX4_isHill 7 = .ok (.isub, 1) := by decide +kernel
theorem dX4_isHill_8 : decode cX4_isHill 8 = .ok (.invokestatic 35, 3) := by decide +kernel
theorem dX4_isHill_11 : decode cX4_isHill 11 = .ok (.ireturn, 1) := by decide +kernel
set_option maxRecDepth 20000 in
theorem ggX4_isTime_X4_isIn : GoodIn wsX4_isTime wsX4_isIn := goodIn_r _ [4] (by decide +kernel) (by decide +kernel)
set_option maxRecDepth 20000 in
theorem gX4_isTime_X4_isIn : GoodIn wsX4_isTime (va_wsS RX4 35 yX4_isIn wsX4_isIn) := goodIn_app (goodIn_of _ (by decide +kernel)) ggX4_isTime_X4_isIn
theorem dX4_isTime_0 : decode cX4_isTime 0 = .ok (.iload_n 0, 1) := by decide +kernel
theorem dX4_isTime_1 : decode cX4_isTime 1 = .ok (.iconst 0, 1) := by decide +kernel
theorem dX4_isTime_2 : decode cX4_isTime 2 = .ok (.sipush 999, 3) := by decide +kernel
theorem dX4_isTime_5 : decode cX4_isTime 5 = .ok (.invokestatic 35, 3) := by decide +kernel
theorem dX4_isTime_8 : decode cX4_isTime 8 = .ok (.ireturn, 1) := by decide +kernel
set_option maxRecDepth 20000 in
theorem ggX4_isStrength_X4_isIn : GoodIn wsX4_isStrength wsX4_isIn := goodIn_r _ [4] (by decide +kernel) (by decide +kernel)
set_option maxRecDepth 20000 in
theorem gX4_isStrength_X4_isIn : GoodIn wsX4_isStrength (va_wsS RX4 35 yX4_isIn wsX4_isIn) := goodIn_app (goodIn_of _ (by decide +kernel)) ggX4_isStrength_X4_isIn
theorem dX4_isStrength_0 : decode cX4_isStrength 0 = .ok (.iload_n 0, 1) := by decide +kernel
theorem dX4_isStrength_1 : decode cX4_isStrength 1 = .ok (.iconst 1, 1) := by decide +kernel
theorem dX4_isStrength_2 : decode cX4_isStrength 2 = .ok (.bipush 9, 2) := by decide +kernel
theorem dX4_isStrength_4 : decode cX4_isStrength 4 = .ok (.invokestatic 35, 3) := by decide +kernel
theorem dX4_isStrength_7 : decode cX4_isStrength 7 = .ok (.ireturn, 1) := by decide +kernel
theorem dX4_sign_0 : decode cX4_sign 0 = .ok (.iload_n 0, 1) := by decide +kernel
theorem dX4_sign_1 : decode cX4_sign 1 = .ok (.ifCond .le 7, 3) := by decide +kernel
theorem dX4_sign_4 : decode cX4_sign 4 = .ok (.iconst 1, 1) := by decide +kernel
theorem dX4_sign_5 : decode cX4_sign 5 = .ok (.goto 12, 3) := by decide +kernel
theorem dX4_sign_8 : decode cX4_sign 8 = .ok (.iload_n 0, 1) := by decide +kernel
theorem dX4_sign_9 : decode cX4_sign 9 = .ok (.ifCond .ge 7, 3) := by decide +kernel
theorem dX4_sign_12 : decode cX4_sign 12 = .ok (.iconst (-1), 1) := by decide +kernel
theorem dX4_sign_13 : decode cX4_sign 13 = .ok (.goto 4, 3) := by decide +kernel
theorem dX4_sign_16 : decode cX4_sign 16 = .ok (.iconst 0, 1) := by decide +kernel
theorem dX4_sign_17 : decode cX4_sign 17 = .ok (.ireturn, 1) := by decide +kernel
set_option maxRecDepth 20000 in
theorem ggX4_chipOf_J6_bitCount_0f7a4 : GoodIn wsX4_chipOf wsJ6_bitCount_0f7a4 := goodIn_r _ [4, 5, 6, 7] (by decide +kernel) (by decide +kernel)
set_option maxRecDepth 20000 in
theorem gX4_chipOf_J6_bitCount_0f7a4 : GoodIn wsX4_chipOf (va_wsS RX4 42 yJ6_bitCount_0f7a4 wsJ6_bitCount_0f7a4) := goodIn_app (goodIn_of _ (by decide +kernel)) ggX4_chipOf_J6_bitCount_0f7a4
theorem dX4_chipOf_0 : decode cX4_chipOf 0 = .ok (.iload_n 0, 1) := by decide +kernel
theorem dX4_chipOf_1 : decode cX4_chipOf 1 = .ok (.iload_n 1, 1) := by decide +kernel
theorem dX4_chipOf_2 : decode cX4_chipOf 2 = .ok (.iand, 1) := by decide +kernel
theorem dX4_chipOf_3 : decode cX4_chipOf 3 = .ok (.invokestatic 42, 3) := by decide +kernel
theorem dX4_chipOf_6 : decode cX4_chipOf 6 = .ok (.iconst 2, 1) := by decide +kernel
theorem dX4_chipOf_7 : decode cX4_chipOf 7 = .ok (.irem, 1) := by decide +kernel
theorem dX4_chipOf_8 : decode cX4_chipOf 8 = .ok (.ifCond .ne 7, 3) := by decide +kernel
theorem dX4_chipOf_11 : decode cX4_chipOf 11 = .ok (.iconst 1, 1) := by decide +kernel
theorem dX4_chipOf_12 : decode cX4_chipOf 12 = .ok (.goto 4, 3) := by decide +kernel
theorem dX4_chipOf_15 : decode cX4_chipOf 15 = .ok (.iconst (-1), 1) := by decide +kernel
theorem dX4_chipOf_16 : decode cX4_chipOf 16 = .ok (.ireturn, 1) := by decide +kernel
theorem dX4_beginOf_0 : decode cX4_beginOf 0 = .ok (.aload_n 0, 1) := by decide +kernel
theorem dX4_beginOf_1 : decode cX4_beginOf 1 = .ok (.getfield 20, 3) := by decide +kernel
theorem dX4_beginOf_4 : decode cX4_beginOf 4 = .ok (.iload_n 1, 1) := by decide +kernel
theorem dX4_beginOf_5 : decode cX4_beginOf 5 = .ok (.iaload, 1) := by decide +kernel
theorem dX4_beginOf_6 : decode cX4_beginOf 6 = .ok (.aload_n 0, 1) := by decide +kernel
theorem dX4_beginOf_7 : decode cX4_beginOf 7 = .ok (.getfield 7, 3) := by decide +kernel
theorem dX4_beginOf_10 : decode cX4_beginOf 10 = .ok (.iload_n 2, 1) := by decide +kernel
theorem dX4_beginOf_11 : decode cX4_beginOf 11 = .ok (.imul, 1) := by decide +kernel
theorem dX4_beginOf_12 : decode cX4_beginOf 12 = .ok (.iadd, 1) := by decide +kernel
theorem dX4_beginOf_13 : decode cX4_beginOf 13 = .ok (.ireturn, 1) := by decide +kernel
set_option maxRecDepth 20000 in
theorem ggX4_signal_X4_chipOf : GoodIn wsX4_signal wsX4_chipOf := goodIn_r _ [10, 11, 12, 13, 14, 15, 16, 17] (by decide +kernel) (by decide +kernel)
set_option maxRecDepth 20000 in
theorem gX4_signal_X4_chipOf : GoodIn wsX4_signal (va_wsS RX4 48 yX4_chipOf wsX4_chipOf) := goodIn_app (goodIn_of _ (by decide +kernel)) ggX4_signal_X4_chipOf
theorem dX4_signal_0 : decode cX4_signal 0 = .ok (.iload_n 2, 1) := by decide +kernel
theorem dX4_signal_1 : decode cX4_signal 1 = .ok (.aload_n 0, 1) := by decide +kernel
theorem dX4_signal_2 : decode cX4_signal 2 = .ok (.getfield 20, 3) := by decide +kernel
theorem dX4_signal_5 : decode cX4_signal 5 = .ok (.iload_n 1, 1) := by decide +kernel
theorem dX4_signal_6 : decode cX4_signal 6 = .ok (.iaload, 1) := by decide +kernel
theorem dX4_signal_7 : decode cX4_signal 7 = .ok (.isub, 1) := by decide +kernel
theorem dX4_signal_8 : decode cX4_signal 8 = .ok (.istore_n 3, 1) := by decide +kernel
theorem dX4_signal_9 : decode cX4_signal 9 = .ok (.iload_n 3, 1) := by decide +kernel
theorem dX4_signal_10 : decode cX4_signal 10 = .ok (.ifCond .lt 18, 3) := by decide +kernel
theorem dX4_signal_13 : decode cX4_signal 13 = .ok (.iload_n 3, 1) := by decide +kernel
theorem dX4_signal_14 : decode cX4_signal 14 = .ok (.aload_n 0, 1) := by decide +kernel
theorem dX4_signal_15 : decode cX4_signal 15 = .ok (.getfield 7, 3) := by decide +kernel
theorem dX4_signal_18 : decode cX4_signal 18 = .ok (.aload_n 0, 1) := by decide +kernel
theorem dX4_signal_19 : decode cX4_signal 19 = .ok (.getfield 23, 3) := by decide +kernel
theorem dX4_signal_22 : decode cX4_signal 22 = .ok (.iload_n 1, 1) := by decide +kernel
theorem dX4_signal_23 : decode cX4_signal 23 = .ok (.iaload, 1) := by decide +kernel
theorem dX4_signal_24 : decode cX4_signal 24 = .ok (.imul, 1) := by decide +kernel
theorem dX4_signal_25 : decode cX4_signal 25 = .ok (.if_icmp .lt 5, 3) := by decide +kernel
theorem dX4_signal_28 : decode cX4_signal 28 = .ok (.iconst 0, 1) := by decide +kernel
theorem dX4_signal_29 : decode cX4_signal 29 = .ok (.ireturn, 1) := by decide +kernel
theorem dX4_signal_30 : decode cX4_signal 30 = .ok (.aload_n 0, 1) := by decide +kernel
theorem dX4_signal_31 : decode cX4_signal 31 = .ok (.getfield 17, 3) := by decide +kernel
theorem dX4_signal_34 : decode cX4_signal 34 = .ok (.iload_n 1, 1) := by decide +kernel
theorem dX4_signal_35 : decode cX4_signal 35 = .ok (.iaload, 1) := by decide +kernel
theorem dX4_signal_36 : decode cX4_signal 36 = .ok (.aload_n 0, 1) := by decide +kernel
theorem dX4_signal_37 : decode cX4_signal 37 = .ok (.getfield 26, 3) := by decide +kernel
theorem dX4_signal_40 : decode cX4_signal 40 = .ok (.bipush 12, 2) := by decide +kernel
theorem dX4_signal_42 : decode cX4_signal 42 = .ok (.iload_n 1, 1) := by decide +kernel
theorem dX4_signal_43 : decode cX4_signal 43 = .ok (.imul, 1) := by decide +kernel
theorem dX4_signal_44 : decode cX4_signal 44 = .ok (.iload_n 3, 1) := by decide +kernel
theorem dX4_signal_45 : decode cX4_signal 45 = .ok (.aload_n 0, 1) := by decide +kernel
theorem dX4_signal_46 : decode cX4_signal 46 = .ok (.getfield 7, 3) := by decide +kernel
theorem dX4_signal_49 : decode cX4_signal 49 = .ok (.idiv, 1) := by decide +kernel
theorem dX4_signal_50 : decode cX4_signal 50 = .ok (.iadd, 1) := by decide +kernel
theorem dX4_signal_51 : decode cX4_signal 51 = .ok (.iaload, 1) := by decide +kernel
theorem dX4_signal_52 : decode cX4_signal 52 = .ok (.imul, 1) := by decide +kernel
theorem dX4_signal_53 : decode cX4_signal 53 = .ok (.aload_n 0, 1) := by decide +kernel
theorem dX4_signal_54 : decode cX4_signal 54 = .ok (.getfield 13, 3) := by decide +kernel
theorem dX4_signal_57 : decode cX4_signal 57 = .ok (.iload_n 1, 1) := by decide +kernel
theorem dX4_signal_58 : decode cX4_signal 58 = .ok (.iaload, 1) := by decide +kernel
theorem dX4_signal_59 : decode cX4_signal 59 = .ok (.iload_n 3, 1) := by decide +kernel
theorem dX4_signal_60 : decode cX4_signal 60 = .ok (.aload_n 0, 1) := by decide +kernel
theorem dX4_signal_61 : decode cX4_signal 61 = .ok (.getfield 7, 3) := by decide +kernel
theorem dX4_signal_64 : decode cX4_signal 64 = .ok (.irem, 1) := by decide +kernel
theorem dX4_signal_65 : decode cX4_signal 65 = .ok (.invokestatic 48, 3) := by decide +kernel
theorem dX4_signal_68 : decode cX4_signal 68 = .ok (.imul, 1) := by decide +kernel
theorem dX4_signal_69 : decode cX4_signal 69 = .ok (.ireturn, 1) := by decide +kernel
set_option maxRecDepth 20000 in
theorem ggX4_skyAt_X4_signal : GoodIn wsX4_skyAt wsX4_signal := goodIn_r _ [7, 8, 9, 10, 11, 12, 13, 14, 15, 6, 16, 17, 18, 19, 20, 21, 22, 23, 24, 25, 26, 27, 28, 29, 30, 31, 32] (by decide +kernel) (by decide +kernel)
set_option maxRecDepth 20000 in
theorem gX4_skyAt_X4_signal : GoodIn wsX4_skyAt (wsV RX4 52 RX4 yX4_signal wsX4_signal) := goodIn_app (goodIn_of _ (by decide +kernel)) ggX4_skyAt_X4_signal
theorem dX4_skyAt_0 : decode cX4_skyAt 0 = .ok (.aload_n 0, 1) := by decide +kernel
theorem dX4_skyAt_1 : decode cX4_skyAt 1 = .ok (.getfield 29, 3) := by decide +kernel
theorem dX4_skyAt_4 : decode cX4_skyAt 4 = .ok (.iload_n 1, 1) := by decide +kernel
theorem dX4_skyAt_5 : decode cX4_skyAt 5 = .ok (.bipush 20, 2) := by decide +kernel
theorem dX4_skyAt_7 : decode cX4_skyAt 7 = .ok (.irem, 1) := by decide +kernel
theorem dX4_skyAt_8 : decode cX4_skyAt 8 = .ok (.iaload, 1) := by decide +kernel
theorem dX4_skyAt_9 : decode cX4_skyAt 9 = .ok (.istore_n 2, 1) := by decide +kernel
theorem dX4_skyAt_10 : decode cX4_skyAt 10 = .ok (.iconst 0, 1) := by decide +kernel
theorem dX4_skyAt_11 : decode cX4_skyAt 11 = .ok (.istore_n 3, 1) := by decide +kernel
theorem dX4_skyAt_12 : decode cX4_skyAt 12 = .ok (.iload_n 3, 1) := by decide +kernel
theorem dX4_skyAt_13 : decode cX4_skyAt 13 = .ok (.aload_n 0, 1) := by decide +kernel
theorem dX4_skyAt_14 : decode cX4_skyAt 14 = .ok (.getfield 39, 3) := by decide +kernel
theorem dX4_skyAt_17 : decode cX4_skyAt 17 = .ok (.if_icmp .ge 18, 3) := by decide +kernel
theorem dX4_skyAt_20 : decode cX4_skyAt 20 = .ok (.iload_n 2, 1) := by decide +kernel
theorem dX4_skyAt_21 : decode cX4_skyAt 21 = .ok (.aload_n 0, 1) := by decide +kernel
theorem dX4_skyAt_22 : decode cX4_skyAt 22 = .ok (.iload_n 3, 1) := by decide +kernel
theorem dX4_skyAt_23 : decode cX4_skyAt 23 = .ok (.iload_n 1, 1) := by decide +kernel
theorem dX4_skyAt_24 : decode cX4_skyAt 24 = .ok (.invokevirtual 52, 3) := by decide +kernel
theorem dX4_skyAt_27 : decode cX4_skyAt 27 = .ok (.iadd, 1) := by decide +kernel
theorem dX4_skyAt_28 : decode cX4_skyAt 28 = .ok (.istore_n 2, 1) := by decide +kernel
theorem dX4_skyAt_29 : decode cX4_skyAt 29 = .ok (.iinc 3 1, 3) := by decide +kernel
theorem dX4_skyAt_32 : decode cX4_skyAt 32 = .ok (.goto (-20), 3) := by decide +kernel
theorem dX4_skyAt_35 : decode cX4_skyAt 35 = .ok (.iload_n 2, 1) := by decide +kernel
theorem dX4_skyAt_36 : decode cX4_skyAt 36 = .ok (.ireturn, 1) := by decide +kernel
set_option maxRecDepth 20000 in
theorem ggX4_heard_X4_skyAt : GoodIn wsX4_heard wsX4_skyAt := goodIn_r _ [6, 7, 8, 9, 10, 11, 5, 12, 13, 1, 14, 15, 16, 17, 18, 19, 20, 21, 22, 23, 24, 25, 26, 27, 28, 29, 30, 31, 32, 33, 34, 35, 36] (by decide +kernel) (by decide +kernel)
set_option maxRecDepth 20000 in
theorem gX4_heard_X4_skyAt : GoodIn wsX4_heard (wsV RX4 55 RX4 yX4_skyAt wsX4_skyAt) := goodIn_app (goodIn_of _ (by decide +kernel)) ggX4_heard_X4_skyAt
set_option maxRecDepth 20000 in
theorem ggX4_heard_X4_chipOf : GoodIn wsX4_heard wsX4_chipOf := goodIn_r _ [20, 21, 22, 23, 24, 25, 26, 27] (by decide +kernel) (by decide +kernel)
set_option maxRecDepth 20000 in
theorem gX4_heard_X4_chipOf : GoodIn wsX4_heard (va_wsS RX4 48 yX4_chipOf wsX4_chipOf) := goodIn_app (goodIn_of _ (by decide +kernel)) ggX4_heard_X4_chipOf
theorem dX4_heard_0 : decode cX4_heard 0 = .ok (.iconst 0, 1) := by decide +kernel
theorem dX4_heard_1 : decode cX4_heard 1 = .ok (.istore_n 3, 1) := by decide +kernel
theorem dX4_heard_2 : decode cX4_heard 2 = .ok (.iconst 0, 1) := by decide +kernel
theorem dX4_heard_3 : decode cX4_heard 3 = .ok (.istore 4, 2) := by decide +kernel
theorem dX4_heard_5 : decode cX4_heard 5 = .ok (.iload 4, 2) := by decide +kernel
theorem dX4_heard_7 : decode cX4_heard 7 = .ok (.aload_n 0, 1) := by decide +kernel
theorem dX4_heard_8 : decode cX4_heard 8 = .ok (.getfield 7, 3) := by decide +kernel
theorem dX4_heard_11 : decode cX4_heard 11 = .ok (.if_icmp .ge 27, 3) := by decide +kernel
theorem dX4_heard_14 : decode cX4_heard 14 = .ok (.iload_n 3, 1) := by decide +kernel
theorem dX4_heard_15 : decode cX4_heard 15 = .ok (.aload_n 0, 1) := by decide +kernel
theorem dX4_heard_16 : decode cX4_heard 16 = .ok (.iload_n 2, 1) := by decide +kernel
theorem dX4_heard_17 : decode cX4_heard 17 = .ok (.iload 4, 2) := by decide +kernel
theorem dX4_heard_19 : decode cX4_heard 19 = .ok (.iadd, 1) := by decide +kernel
theorem dX4_heard_20 : decode cX4_heard 20 = .ok (.invokevirtual 55, 3) := by decide +kernel
theorem dX4_heard_23 : decode cX4_heard 23 = .ok (.iload_n 1, 1) := by decide +kernel
theorem dX4_heard_24 : decode cX4_heard 24 = .ok (.iload 4, 2) := by decide +kernel
theorem dX4_heard_26 : decode cX4_heard 26 = .ok (.invokestatic 48, 3) := by decide +kernel
theorem dX4_heard_29 : decode cX4_heard 29 = .ok (.imul, 1) := by decide +kernel
theorem dX4_heard_30 : decode cX4_heard 30 = .ok (.iadd, 1) := by decide +kernel
theorem dX4_heard_31 : decode cX4_heard 31 = .ok (.istore_n 3, 1) := by decide +kernel
theorem dX4_heard_32 : decode cX4_heard 32 = .ok (.iinc 4 1, 3) := by decide +kernel
theorem dX4_heard_35 : decode cX4_heard 35 = .ok (.goto (-30), 3) := by decide +kernel
theorem dX4_heard_38 : decode cX4_heard 38 = .ok (.iload_n 3, 1) := by decide +kernel
theorem dX4_heard_39 : decode cX4_heard 39 = .ok (.ireturn, 1) := by decide +kernel
set_option maxRecDepth 20000 in
theorem ggX4_heardOf_X4_beginOf : GoodIn wsX4_heardOf wsX4_beginOf := goodIn_r _ [6, 7, 8, 36, 37, 38, 39, 40, 41, 42, 43, 44] (by decide +kernel) (by decide +kernel)
set_option maxRecDepth 20000 in
theorem gX4_heardOf_X4_beginOf : GoodIn wsX4_heardOf (wsV RX4 58 RX4 yX4_beginOf wsX4_beginOf) := goodIn_app (goodIn_of _ (by decide +kernel)) ggX4_heardOf_X4_beginOf
set_option maxRecDepth 20000 in
theorem ggX4_heardOf_X4_heard : GoodIn wsX4_heardOf wsX4_heard := goodIn_r _ [12, 8, 13, 14, 15, 5, 16, 17, 18, 19, 20, 21, 22, 7, 23, 24, 25, 1, 26, 27, 28, 29, 30, 31, 32, 33, 34, 35, 36, 37, 38, 39, 40, 41, 42, 43, 44] (by decide +kernel) (by decide +kernel)
set_option maxRecDepth 20000 in
theorem gX4_heardOf_X4_heard : GoodIn wsX4_heardOf (wsV RX4 61 RX4 yX4_heard wsX4_heard) := goodIn_app (goodIn_of _ (by decide +kernel)) ggX4_heardOf_X4_heard
theorem dX4_heardOf_0 : decode cX4_heardOf 0 = .ok (.aload_n 0, 1) := by decide +kernel
theorem dX4_heardOf_1 : decode cX4_heardOf 1 = .ok (.aload_n 0, 1) := by decide +kernel
theorem dX4_heardOf_2 : decode cX4_heardOf 2 = .ok (.getfield 13, 3) := by decide +kernel
theorem dX4_heardOf_5 : decode cX4_heardOf 5 = .ok (.iload_n 1, 1) := by decide +kernel
theorem dX4_heardOf_6 : decode cX4_heardOf 6 = .ok (.iaload, 1) := by decide +kernel
theorem dX4_heardOf_7 : decode cX4_heardOf 7 = .ok (.aload_n 0, 1) := by decide +kernel
theorem dX4_heardOf_8 : decode cX4_heardOf 8 = .ok (.iload_n 1, 1) := by decide +kernel
theorem dX4_heardOf_9 : decode cX4_heardOf 9 = .ok (.iload_n 2, 1) := by decide +kernel
theorem dX4_heardOf_10 : decode cX4_heardOf 10 = .ok (.invokevirtual 58, 3) := by decide +kernel
theorem dX4_heardOf_13 : decode cX4_heardOf 13 = .ok (.invokevirtual 61, 3) := by decide +kernel
theorem dX4_heardOf_16 : decode cX4_heardOf 16 = .ok (.ireturn, 1) := by decide +kernel
set_option maxRecDepth 20000 in
theorem ggX4_isWrong_X4_heardOf : GoodIn wsX4_isWrong wsX4_heardOf := goodIn_r _ [6, 7, 8, 9, 10, 5, 11, 12, 13, 14, 15, 16, 17, 18, 19, 20, 21, 22, 23, 24, 25, 26, 27, 28, 29, 1, 30, 31, 32, 33, 34, 35, 36, 37, 38, 39, 43, 44, 45, 46, 47, 48, 49, 50, 51] (by decide +kernel) (by decide +kernel)
set_option maxRecDepth 20000 in
theorem gX4_isWrong_X4_heardOf : GoodIn wsX4_isWrong (wsV RX4 64 RX4 yX4_heardOf wsX4_heardOf) := goodIn_app (goodIn_of _ (by decide +kernel)) ggX4_isWrong_X4_heardOf
set_option maxRecDepth 20000 in
theorem ggX4_isWrong_X4_sign : GoodIn wsX4_isWrong wsX4_sign := goodIn_r _ [42] (by decide +kernel) (by decide +kernel)
set_option maxRecDepth 20000 in
theorem gX4_isWrong_X4_sign : GoodIn wsX4_isWrong (va_wsS RX4 67 yX4_sign wsX4_sign) := goodIn_app (goodIn_of _ (by decide +kernel)) ggX4_isWrong_X4_sign
theorem dX4_isWrong_0 : decode cX4_isWrong 0 = .ok (.aload_n 0, 1) := by decide +kernel
theorem dX4_isWrong_1 : decode cX4_isWrong 1 = .ok (.iload_n 1, 1) := by decide +kernel
theorem dX4_isWrong_2 : decode cX4_isWrong 2 = .ok (.iload_n 2, 1) := by decide +kernel
theorem dX4_isWrong_3 : decode cX4_isWrong 3 = .ok (.invokevirtual 64, 3) := by decide +kernel
theorem dX4_isWrong_6 : decode cX4_isWrong 6 = .ok (.invokestatic 67, 3) := by decide +kernel
theorem dX4_isWrong_9 : decode cX4_isWrong 9 = .ok (.aload_n 0, 1) := by decide +kernel
theorem dX4_isWrong_10 : decode cX4_isWrong 10 = .ok (.getfield 26, 3) := by decide +kernel
theorem dX4_isWrong_13 : decode cX4_isWrong 13 = .ok (.bipush 12, 2) := by decide +kernel
theorem dX4_isWrong_15 : decode cX4_isWrong 15 = .ok (.iload_n 1, 1) := by decide +kernel
theorem dX4_isWrong_16 : decode cX4_isWrong 16 = .ok (.imul, 1) := by decide +kernel
theorem dX4_isWrong_17 : decode cX4_isWrong 17 = .ok (.iload_n 2, 1) := by decide +kernel
theorem dX4_isWrong_18 : decode cX4_isWrong 18 = .ok (.iadd, 1) := by decide +kernel
theorem dX4_isWrong_19 : decode cX4_isWrong 19 = .ok (.iaload, 1) := by decide +kernel
theorem dX4_isWrong_20 : decode cX4_isWrong 20 = .ok (.if_icmp .ne 7, 3) := by decide +kernel
theorem dX4_isWrong_23 : decode cX4_isWrong 23 = .ok (.iconst 0, 1) := by decide +kernel
theorem dX4_isWrong_24 : decode cX4_isWrong 24 = .ok (.goto 4, 3) := by decide +kernel
theorem dX4_isWrong_27 : decode cX4_isWrong 27 = .ok (.iconst 1, 1) := by decide +kernel
theorem dX4_isWrong_28 : decode cX4_isWrong 28 = .ok (.ireturn, 1) := by decide +kernel
set_option maxRecDepth 20000 in
theorem ggX4_wrongOf_X4_isWrong : GoodIn wsX4_wrongOf wsX4_isWrong := goodIn_r _ [6, 7, 8, 9, 10, 5, 11, 12, 13, 14, 15, 16, 17, 18, 19, 20, 21, 22, 23, 24, 25, 26, 27, 28, 29, 30, 31, 32, 1, 33, 34, 35, 36, 37, 38, 39, 40, 41, 42, 43, 44, 45, 46, 47, 48, 49, 50, 51, 52, 53, 54, 55] (by decide +kernel) (by decide +kernel)
set_option maxRecDepth 20000 in
theorem gX4_wrongOf_X4_isWrong : GoodIn wsX4_wrongOf (wsV RX4 70 RX4 yX4_isWrong wsX4_isWrong) := goodIn_app (goodIn_of _ (by decide +kernel)) ggX4_wrongOf_X4_isWrong
theorem dX4_wrongOf_0 : decode cX4_wrongOf 0 = .ok (.iconst 0, 1) := by decide +kernel
theorem dX4_wrongOf_1 : decode cX4_wrongOf 1 = .ok (.istore_n 2, 1) := by decide +kernel
theorem dX4_wrongOf_2 : decode cX4_wrongOf 2 = .ok (.iconst 0, 1) := by decide +kernel
theorem dX4_wrongOf_3 : decode cX4_wrongOf 3 = .ok (.istore_n 3, 1) := by decide +kernel
theorem dX4_wrongOf_4 : decode cX4_wrongOf 4 = .ok (.iload_n 3, 1) := by decide +kernel
theorem dX4_wrongOf_5 : decode cX4_wrongOf 5 = .ok (.aload_n 0, 1) := by decide +kernel
theorem dX4_wrongOf_6 : decode cX4_wrongOf 6 = .ok (.getfield 23, 3) := by decide +kernel
theorem dX4_wrongOf_9 : decode cX4_wrongOf 9 = .ok (.iload_n 1, 1) := by decide +kernel
theorem dX4_wrongOf_10 : decode cX4_wrongOf 10 = .ok (.iaload, 1) := by decide +kernel
theorem dX4_wrongOf_11 : decode cX4_wrongOf 11 = .ok (.if_icmp .ge 18, 3) := by decide +kernel
theorem dX4_wrongOf_14 : decode cX4_wrongOf 14 = .ok (.iload_n 2, 1) := by decide +kernel
theorem dX4_wrongOf_15 : decode cX4_wrongOf 15 = .ok (.aload_n 0, 1) := by decide +kernel
theorem dX4_wrongOf_16 : decode cX4_wrongOf 16 = .ok (.iload_n 1, 1) := by decide +kernel
theorem dX4_wrongOf_17 : decode cX4_wrongOf 17 = .ok (.iload_n 3, 1) := by decide +kernel
theorem dX4_wrongOf_18 : decode cX4_wrongOf 18 = .ok (.invokevirtual 70, 3) := by decide +kernel
theorem dX4_wrongOf_21 : decode cX4_wrongOf 21 = .ok (.iadd, 1) := by decide +kernel
theorem dX4_wrongOf_22 : decode cX4_wrongOf 22 = .ok (.istore_n 2, 1) := by decide +kernel
theorem dX4_wrongOf_23 : decode cX4_wrongOf 23 = .ok (.iinc 3 1, 3) := by decide +kernel
theorem dX4_wrongOf_26 : decode cX4_wrongOf 26 = .ok (.goto (-22), 3) := by decide +kernel
theorem dX4_wrongOf_29 : decode cX4_wrongOf 29 = .ok (.iload_n 2, 1) := by decide +kernel
theorem dX4_wrongOf_30 : decode cX4_wrongOf 30 = .ok (.ireturn, 1) := by decide +kernel
set_option maxRecDepth 20000 in
theorem ggX4_allWrong_X4_wrongOf : GoodIn wsX4_allWrong wsX4_wrongOf := goodIn_r _ [6, 7, 8, 9, 10, 5, 11, 12, 13, 14, 15, 16, 17, 18, 19, 20, 21, 22, 23, 24, 25, 26, 27, 28, 29, 30, 31, 32, 1, 33, 34, 35, 36, 37, 38, 39, 40, 41, 42, 43, 44, 45, 46, 47, 48, 49, 50, 51, 52, 53, 54, 55, 56, 57, 58, 59] (by decide +kernel) (by decide +kernel)
set_option maxRecDepth 20000 in
theorem gX4_allWrong_X4_wrongOf : GoodIn wsX4_allWrong (wsV RX4 73 RX4 yX4_wrongOf wsX4_wrongOf) := goodIn_app (goodIn_of _ (by decide +kernel)) ggX4_allWrong_X4_wrongOf
theorem dX4_allWrong_0 : decode cX4_allWrong 0 = .ok (.iconst 0, 1) := by decide +kernel
theorem dX4_allWrong_1 : decode cX4_allWrong 1 = .ok (.istore_n 1, 1) := by decide +kernel
theorem dX4_allWrong_2 : decode cX4_allWrong 2 = .ok (.iconst 0, 1) := by decide +kernel
theorem dX4_allWrong_3 : decode cX4_allWrong 3 = .ok (.istore_n 2, 1) := by decide +kernel
theorem dX4_allWrong_4 : decode cX4_allWrong 4 = .ok (.iload_n 2, 1) := by decide +kernel
theorem dX4_allWrong_5 : decode cX4_allWrong 5 = .ok (.aload_n 0, 1) := by decide +kernel
theorem dX4_allWrong_6 : decode cX4_allWrong 6 = .ok (.getfield 39, 3) := by decide +kernel
theorem dX4_allWrong_9 : decode cX4_allWrong 9 = .ok (.if_icmp .ge 17, 3) := by decide +kernel
theorem dX4_allWrong_12 : decode cX4_allWrong 12 = .ok (.iload_n 1, 1) := by decide +kernel
theorem dX4_allWrong_13 : decode cX4_allWrong 13 = .ok (.aload_n 0, 1) := by decide +kernel
theorem dX4_allWrong_14 : decode cX4_allWrong 14 = .ok (.iload_n 2, 1) := by decide +kernel
theorem dX4_allWrong_15 : decode cX4_allWrong 15 = .ok (.invokevirtual 73, 3) := by decide +kernel
theorem dX4_allWrong_18 : decode cX4_allWrong 18 = .ok (.iadd, 1) := by decide +kernel
theorem dX4_allWrong_19 : decode cX4_allWrong 19 = .ok (.istore_n 1, 1) := by decide +kernel
theorem dX4_allWrong_20 : decode cX4_allWrong 20 = .ok (.iinc 2 1, 3) := by decide +kernel
theorem dX4_allWrong_23 : decode cX4_allWrong 23 = .ok (.goto (-19), 3) := by decide +kernel
theorem dX4_allWrong_26 : decode cX4_allWrong 26 = .ok (.iload_n 1, 1) := by decide +kernel
theorem dX4_allWrong_27 : decode cX4_allWrong 27 = .ok (.ireturn, 1) := by decide +kernel
set_option maxRecDepth 20000 in
theorem ggX4_endOf_X4_beginOf : GoodIn wsX4_endOf wsX4_beginOf := goodIn_r _ [6, 7, 8, 9, 10, 11, 12, 13, 14, 15, 16, 17] (by decide +kernel) (by decide +kernel)
set_option maxRecDepth 20000 in
theorem gX4_endOf_X4_beginOf : GoodIn wsX4_endOf (wsV RX4 58 RX4 yX4_beginOf wsX4_beginOf) := goodIn_app (goodIn_of _ (by decide +kernel)) ggX4_endOf_X4_beginOf
theorem dX4_endOf_0 : decode cX4_endOf 0 = .ok (.aload_n 0, 1) := by decide +kernel
theorem dX4_endOf_1 : decode cX4_endOf 1 = .ok (.getfield 23, 3) := by decide +kernel
theorem dX4_endOf_4 : decode cX4_endOf 4 = .ok (.iload_n 1, 1) := by decide +kernel
theorem dX4_endOf_5 : decode cX4_endOf 5 = .ok (.iaload, 1) := by decide +kernel
theorem dX4_endOf_6 : decode cX4_endOf 6 = .ok (.ifCond .ne 7, 3) := by decide +kernel
theorem dX4_endOf_9 : decode cX4_endOf 9 = .ok (.iconst 0, 1) := by decide +kernel
theorem dX4_endOf_10 : decode cX4_endOf 10 = .ok (.goto 14, 3) := by decide +kernel
theorem dX4_endOf_13 : decode cX4_endOf 13 = .ok (.aload_n 0, 1) := by decide +kernel
theorem dX4_endOf_14 : decode cX4_endOf 14 = .ok (.iload_n 1, 1) := by decide +kernel
theorem dX4_endOf_15 : decode cX4_endOf 15 = .ok (.aload_n 0, 1) := by decide +kernel
theorem dX4_endOf_16 : decode cX4_endOf 16 = .ok (.getfield 23, 3) := by decide +kernel
theorem dX4_endOf_19 : decode cX4_endOf 19 = .ok (.iload_n 1, 1) := by decide +kernel
theorem dX4_endOf_20 : decode cX4_endOf 20 = .ok (.iaload, 1) := by decide +kernel
theorem dX4_endOf_21 : decode cX4_endOf 21 = .ok (.invokevirtual 58, 3) := by decide +kernel
theorem dX4_endOf_24 : decode cX4_endOf 24 = .ok (.ireturn, 1) := by decide +kernel
set_option maxRecDepth 20000 in
theorem ggX4_end_X4_endOf : GoodIn wsX4_end wsX4_endOf := goodIn_r _ [10, 11, 12, 13, 14, 9, 15, 16, 17, 18, 19, 20, 21, 22, 23, 24, 25, 26] (by decide +kernel) (by decide +kernel)
set_option maxRecDepth 20000 in
theorem gX4_end_X4_endOf : GoodIn wsX4_end (wsV RX4 76 RX4 yX4_endOf wsX4_endOf) := goodIn_app (goodIn_of _ (by decide +kernel)) ggX4_end_X4_endOf
theorem dX4_end_0 : decode cX4_end 0 = .ok (.iconst 0, 1) := by decide +kernel
theorem dX4_end_1 : decode cX4_end 1 = .ok (.istore_n 1, 1) := by decide +kernel
theorem dX4_end_2 : decode cX4_end 2 = .ok (.iconst 0, 1) := by decide +kernel
theorem dX4_end_3 : decode cX4_end 3 = .ok (.istore_n 2, 1) := by decide +kernel
theorem dX4_end_4 : decode cX4_end 4 = .ok (.iload_n 2, 1) := by decide +kernel
theorem dX4_end_5 : decode cX4_end 5 = .ok (.aload_n 0, 1) := by decide +kernel
theorem dX4_end_6 : decode cX4_end 6 = .ok (.getfield 39, 3) := by decide +kernel
theorem dX4_end_9 : decode cX4_end 9 = .ok (.if_icmp .ge 19, 3) := by decide +kernel
theorem dX4_end_12 : decode cX4_end 12 = .ok (.iload_n 1, 1) := by decide +kernel
theorem dX4_end_13 : decode cX4_end 13 = .ok (.aload_n 0, 1) := by decide +kernel
theorem dX4_end_14 : decode cX4_end 14 = .ok (.iload_n 2, 1) := by decide +kernel
theorem dX4_end_15 : decode cX4_end 15 = .ok (.invokevirtual 76, 3) := by decide +kernel
theorem dX4_end_18 : decode cX4_end 18 = .ok (.invokestatic 79, 3) := by decide +kernel
theorem dX4_end_21 : decode cX4_end 21 = .ok (.istore_n 1, 1) := by decide +kernel
theorem dX4_end_22 : decode cX4_end 22 = .ok (.iinc 2 1, 3) := by decide +kernel
theorem dX4_end_25 : decode cX4_end 25 = .ok (.goto (-21), 3) := by decide +kernel
theorem dX4_end_28 : decode cX4_end 28 = .ok (.iload_n 1, 1) := by decide +kernel
theorem dX4_end_29 : decode cX4_end 29 = .ok (.ireturn, 1) := by decide +kernel
set_option maxRecDepth 20000 in
theorem ggX4_highest_X4_end : GoodIn wsX4_highest wsX4_end := goodIn_r _ [12, 13, 5, 6, 3, 7, 14, 15, 16, 11, 17, 18, 19, 20, 21, 22, 23, 24, 47, 48, 49, 50, 51, 52, 53, 54, 55] (by decide +kernel) (by decide +kernel)
set_option maxRecDepth 20000 in
theorem gX4_highest_X4_end : GoodIn wsX4_highest (wsV RX4 84 RX4 yX4_end wsX4_end) := goodIn_app (goodIn_of _ (by decide +kernel)) ggX4_highest_X4_end
set_option maxRecDepth 20000 in
theorem ggX4_highest_X4_skyAt : GoodIn wsX4_highest wsX4_skyAt := goodIn_r _ [28, 29, 13, 30, 31, 32, 11, 33, 23, 24, 18, 34, 35, 36, 37, 38, 39, 40, 41, 42, 43, 44, 45, 46, 47, 48, 49, 50, 51, 52, 53, 54, 55] (by decide +kernel) (by decide +kernel)
set_option maxRecDepth 20000 in
theorem gX4_highest_X4_skyAt : GoodIn wsX4_highest (wsV RX4 55 RX4 yX4_skyAt wsX4_skyAt) := goodIn_app (goodIn_of _ (by decide +kernel)) ggX4_highest_X4_skyAt
theorem dX4_highest_0 : decode cX4_highest 0 = .ok (.iconst 0, 1) := by decide +kernel
theorem dX4_highest_1 : decode cX4_highest 1 = .ok (.istore_n 1, 1) := by decide +kernel
theorem dX4_highest_2 : decode cX4_highest 2 = .ok (.aload_n 0, 1) := by decide +kernel
theorem dX4_highest_3 : decode cX4_highest 3 = .ok (.invokevirtual 84, 3) := by decide +kernel
theorem dX4_highest_6 : decode cX4_highest 6 = .ok (.istore_n 2, 1) := by decide +kernel
theorem dX4_highest_7 : decode cX4_highest 7 = .ok (.iconst 0, 1) := by decide +kernel
theorem dX4_highest_8 : decode cX4_highest 8 = .ok (.istore_n 3, 1) := by decide +kernel
theorem dX4_highest_9 : decode cX4_highest 9 = .ok (.iload_n 3, 1) := by decide +kernel
theorem dX4_highest_10 : decode cX4_highest 10 = .ok (.iload_n 2, 1) := by decide +kernel
theorem dX4_highest_11 : decode cX4_highest 11 = .ok (.if_icmp .ge 22, 3) := by decide +kernel
theorem dX4_highest_14 : decode cX4_highest 14 = .ok (.iload_n 1, 1) := by decide +kernel
theorem dX4_highest_15 : decode cX4_highest 15 = .ok (.aload_n 0, 1) := by decide +kernel
theorem dX4_highest_16 : decode cX4_highest 16 = .ok (.iload_n 3, 1) := by decide +kernel
theorem dX4_highest_17 : decode cX4_highest 17 = .ok (.invokevirtual 55, 3) := by decide +kernel
theorem dX4_highest_20 : decode cX4_highest 20 = .ok (.invokestatic 88, 3) := by decide +kernel
theorem dX4_highest_23 : decode cX4_highest 23 = .ok (.invokestatic 79, 3) := by decide +kernel
theorem dX4_highest_26 : decode cX4_highest 26 = .ok (.istore_n 1, 1) := by decide +kernel
theorem dX4_highest_27 : decode cX4_highest 27 = .ok (.iinc 3 1, 3) := by decide +kernel
theorem dX4_highest_30 : decode cX4_highest 30 = .ok (.goto (-21), 3) := by decide +kernel
theorem dX4_highest_33 : decode cX4_highest 33 = .ok (.iload_n 1, 1) := by decide +kernel
theorem dX4_highest_34 : decode cX4_highest 34 = .ok (.ireturn, 1) := by decide +kernel
theorem dX4_isTaken_0 : decode cX4_isTaken 0 = .ok (.iconst 0, 1) := by decide +kernel
theorem dX4_isTaken_1 : decode cX4_isTaken 1 = .ok (.istore_n 2, 1) := by decide +kernel
theorem dX4_isTaken_2 : decode cX4_isTaken 2 = .ok (.iload_n 2, 1) := by decide +kernel
theorem dX4_isTaken_3 : decode cX4_isTaken 3 = .ok (.aload_n 0, 1) := by decide +kernel
theorem dX4_isTaken_4 : decode cX4_isTaken 4 = .ok (.getfield 39, 3) := by decide +kernel
theorem dX4_isTaken_7 : decode cX4_isTaken 7 = .ok (.if_icmp .ge 21, 3) := by decide +kernel
theorem dX4_isTaken_10 : decode cX4_isTaken 10 = .ok (.aload_n 0, 1) := by decide +kernel
theorem dX4_isTaken_11 : decode cX4_isTaken 11 = .ok (.getfield 13, 3) := by decide +kernel
theorem dX4_isTaken_14 : decode cX4_isTaken 14 = .ok (.iload_n 2, 1) := by decide +kernel
theorem dX4_isTaken_15 : decode cX4_isTaken 15 = .ok (.iaload, 1) := by decide +kernel
theorem dX4_isTaken_16 : decode cX4_isTaken 16 = .ok (.iload_n 1, 1) := by decide +kernel
theorem dX4_isTaken_17 : decode cX4_isTaken 17 = .ok (.if_icmp .ne 5, 3) := by decide +kernel
theorem dX4_isTaken_20 : decode cX4_isTaken 20 = .ok (.iconst 1, 1) := by decide +kernel
theorem dX4_isTaken_21 : decode cX4_isTaken 21 = .ok (.ireturn, 1) := by decide +kernel
theorem dX4_isTaken_22 : decode cX4_isTaken 22 = .ok (.iinc 2 1, 3) := by decide +kernel
theorem dX4_isTaken_25 : decode cX4_isTaken 25 = .ok (.goto (-23), 3) := by decide +kernel
theorem dX4_isTaken_28 : decode cX4_isTaken 28 = .ok (.iconst 0, 1) := by decide +kernel
theorem dX4_isTaken_29 : decode cX4_isTaken 29 = .ok (.ireturn, 1) := by decide +kernel
set_option maxRecDepth 20000 in
theorem ggX4_likeness_X4_chipOf : GoodIn wsX4_likeness wsX4_chipOf := goodIn_r _ [9, 10, 11, 12, 13, 14, 15, 16] (by decide +kernel) (by decide +kernel)
set_option maxRecDepth 20000 in
theorem gX4_likeness_X4_chipOf : GoodIn wsX4_likeness (va_wsS RX4 48 yX4_chipOf wsX4_chipOf) := goodIn_app (goodIn_of _ (by decide +kernel)) ggX4_likeness_X4_chipOf
theorem dX4_likeness_0 : decode cX4_likeness 0 = .ok (.iconst 0, 1) := by decide +kernel
theorem dX4_likeness_1 : decode cX4_likeness 1 = .ok (.istore 4, 2) := by decide +kernel
theorem dX4_likeness_3 : decode cX4_likeness 3 = .ok (.iconst 0, 1) := by decide +kernel
theorem dX4_likeness_4 : decode cX4_likeness 4 = .ok (.istore 5, 2) := by decide +kernel
theorem dX4_likeness_6 : decode cX4_likeness 6 = .ok (.iload 5, 2) := by decide +kernel
theorem dX4_likeness_8 : decode cX4_likeness 8 = .ok (.aload_n 0, 1) := by decide +kernel
theorem dX4_likeness_9 : decode cX4_likeness 9 = .ok (.getfield 7, 3) := by decide +kernel
theorem dX4_likeness_12 : decode cX4_likeness 12 = .ok (.if_icmp .ge 34, 3) := by decide +kernel
theorem dX4_likeness_15 : decode cX4_likeness 15 = .ok (.iload 4, 2) := by decide +kernel
theorem dX4_likeness_17 : decode cX4_likeness 17 = .ok (.iload_n 1, 1) := by decide +kernel
theorem dX4_likeness_18 : decode cX4_likeness 18 = .ok (.iload 5, 2) := by decide +kernel
theorem dX4_likeness_20 : decode cX4_likeness 20 = .ok (.invokestatic 48, 3) := by decide +kernel
theorem dX4_likeness_23 : decode cX4_likeness 23 = .ok (.iload_n 2, 1) := by decide +kernel
theorem dX4_likeness_24 : decode cX4_likeness 24 = .ok (.iload 5, 2) := by decide +kernel
theorem dX4_likeness_26 : decode cX4_likeness 26 = .ok (.iload_n 3, 1) := by decide +kernel
theorem dX4_likeness_27 : decode cX4_likeness 27 = .ok (.iadd, 1) := by decide +kernel
theorem dX4_likeness_28 : decode cX4_likeness 28 = .ok (.aload_n 0, 1) := by decide +kernel
theorem dX4_likeness_29 : decode cX4_likeness 29 = .ok (.getfield 7, 3) := by decide +kernel
theorem dX4_likeness_32 : decode cX4_likeness 32 = .ok (.irem, 1) := by decide +kernel
theorem dX4_likeness_33 : decode cX4_likeness 33 = .ok (.invokestatic 48, 3) := by decide +kernel
theorem dX4_likeness_36 : decode cX4_likeness 36 = .ok (.imul, 1) := by decide +kernel
theorem dX4_likeness_37 : decode cX4_likeness 37 = .ok (.iadd, 1) := by decide +kernel
theorem dX4_likeness_38 : decode cX4_likeness 38 = .ok (.istore 4, 2) := by decide +kernel
theorem dX4_likeness_40 : decode cX4_likeness 40 = .ok (.iinc 5 1, 3) := by decide +kernel
theorem dX4_likeness_43 : decode cX4_likeness 43 = .ok (.goto (-37), 3) := by decide +kernel
theorem dX4_likeness_46 : decode cX4_likeness 46 = .ok (.iload 4, 2) := by decide +kernel
theorem dX4_likeness_48 : decode cX4_likeness 48 = .ok (.invokestatic 88, 3) := by decide +kernel
theorem dX4_likeness_51 : decode cX4_likeness 51 = .ok (.ireturn, 1) := by decide +kernel
set_option maxRecDepth 20000 in
theorem ggX4_setCodes_X4_isIn : GoodIn wsX4_setCodes wsX4_isIn := goodIn_r _ [7] (by decide +kernel) (by decide +kernel)
set_option maxRecDepth 20000 in
theorem gX4_setCodes_X4_isIn : GoodIn wsX4_setCodes (va_wsS RX4 35 yX4_isIn wsX4_isIn) := goodIn_app (goodIn_of _ (by decide +kernel)) ggX4_setCodes_X4_isIn
set_option maxRecDepth 20000 in
theorem ggX4_setCodes_X4_no : GoodIn wsX4_setCodes wsX4_no := goodIn_r _ [11, 1, 12, 13, 14, 15, 16, 17, 18, 19, 20] (by decide +kernel) (by decide +kernel)
set_option maxRecDepth 20000 in
theorem gX4_setCodes_X4_no : GoodIn wsX4_setCodes (wsV RX4 91 RX4 yX4_no wsX4_no) := goodIn_app (goodIn_of _ (by decide +kernel)) ggX4_setCodes_X4_no
theorem dX4_setCodes_0 : decode cX4_setCodes 0 = .ok (.aload_n 0, 1) := by decide +kernel
theorem dX4_setCodes_1 : decode cX4_setCodes 1 = .ok (.iconst 0, 1) := by decide +kernel
theorem dX4_setCodes_2 : decode cX4_setCodes 2 = .ok (.putfield 32, 3) := by decide +kernel
theorem dX4_setCodes_5 : decode cX4_setCodes 5 = .ok (.iload_n 1, 1) := by decide +kernel
theorem dX4_setCodes_6 : decode cX4_setCodes 6 = .ok (.iconst 0, 1) := by decide +kernel
theorem dX4_setCodes_7 : decode cX4_setCodes 7 = .ok (.iconst 4, 1) := by decide +kernel
theorem dX4_setCodes_8 : decode cX4_setCodes 8 = .ok (.invokestatic 35, 3) := by decide +kernel
theorem dX4_setCodes_11 : decode cX4_setCodes 11 = .ok (.ifCond .ne 9, 3) := by decide +kernel
theorem dX4_setCodes_14 : decode cX4_setCodes 14 = .ok (.aload_n 0, 1) := by decide +kernel
theorem dX4_setCodes_15 : decode cX4_setCodes 15 = .ok (.iconst 1, 1) := by decide +kernel
theorem dX4_setCodes_16 : decode cX4_setCodes 16 = .ok (.invokevirtual 91, 3) := by decide +kernel
theorem dX4_setCodes_19 : decode cX4_setCodes 19 = .ok (.ireturn, 1) := by decide +kernel
theorem dX4_setCodes_20 : decode cX4_setCodes 20 = .ok (.aload_n 0, 1) := by decide +kernel
theorem dX4_setCodes_21 : decode cX4_setCodes 21 = .ok (.getfield 7, 3) := by decide +kernel
theorem dX4_setCodes_24 : decode cX4_setCodes 24 = .ok (.istore_n 2, 1) := by decide +kernel
theorem dX4_setCodes_25 : decode cX4_setCodes 25 = .ok (.aload_n 0, 1) := by decide +kernel
theorem dX4_setCodes_26 : decode cX4_setCodes 26 = .ok (.iconst 1, 1) := by decide +kernel
theorem dX4_setCodes_27 : decode cX4_setCodes 27 = .ok (.iload_n 1, 1) := by decide +kernel
theorem dX4_setCodes_28 : decode cX4_setCodes 28 = .ok (.ishl, 1) := by decide +kernel
theorem dX4_setCodes_29 : decode cX4_setCodes 29 = .ok (.putfield 7, 3) := by decide +kernel
theorem dX4_setCodes_32 : decode cX4_setCodes 32 = .ok (.aload_n 0, 1) := by decide +kernel
theorem dX4_setCodes_33 : decode cX4_setCodes 33 = .ok (.iconst 0, 1) := by decide +kernel
theorem dX4_setCodes_34 : decode cX4_setCodes 34 = .ok (.putfield 39, 3) := by decide +kernel
theorem dX4_setCodes_37 : decode cX4_setCodes 37 = .ok (.iload_n 2, 1) := by decide +kernel
theorem dX4_setCodes_38 : decode cX4_setCodes 38 = .ok (.ireturn, 1) := by decide +kernel
set_option maxRecDepth 20000 in
theorem ggX4_hill_X4_isCode : GoodIn wsX4_hill wsX4_isCode := goodIn_r _ [11, 12, 13, 14, 10, 15, 23, 24, 25, 26, 27, 28, 29, 30, 31] (by decide +kernel) (by decide +kernel)
set_option maxRecDepth 20000 in
theorem gX4_hill_X4_isCode : GoodIn wsX4_hill (wsV RX4 94 RX4 yX4_isCode wsX4_isCode) := goodIn_app (goodIn_of _ (by decide +kernel)) ggX4_hill_X4_isCode
set_option maxRecDepth 20000 in
theorem ggX4_hill_X4_no : GoodIn wsX4_hill wsX4_no := goodIn_r _ [19, 1, 23, 24, 25, 26, 27, 28, 29, 30, 31] (by decide +kernel) (by decide +kernel)
set_option maxRecDepth 20000 in
theorem gX4_hill_X4_no : GoodIn wsX4_hill (wsV RX4 91 RX4 yX4_no wsX4_no) := goodIn_app (goodIn_of _ (by decide +kernel)) ggX4_hill_X4_no
set_option maxRecDepth 20000 in
theorem ggX4_hill_X4_isStrength : GoodIn wsX4_hill wsX4_isStrength := goodIn_r _ [22, 13, 14, 10, 15] (by decide +kernel) (by decide +kernel)
set_option maxRecDepth 20000 in
theorem gX4_hill_X4_isStrength : GoodIn wsX4_hill (va_wsS RX4 98 yX4_isStrength wsX4_isStrength) := goodIn_app (goodIn_of _ (by decide +kernel)) ggX4_hill_X4_isStrength
theorem dX4_hill_0 : decode cX4_hill 0 = .ok (.aload_n 0, 1) := by decide +kernel
theorem dX4_hill_1 : decode cX4_hill 1 = .ok (.iconst 0, 1) := by decide +kernel
theorem dX4_hill_2 : decode cX4_hill 2 = .ok (.putfield 32, 3) := by decide +kernel
theorem dX4_hill_5 : decode cX4_hill 5 = .ok (.aload_n 0, 1) := by decide +kernel
theorem dX4_hill_6 : decode cX4_hill 6 = .ok (.iload_n 1, 1) := by decide +kernel
theorem dX4_hill_7 : decode cX4_hill 7 = .ok (.invokevirtual 94, 3) := by decide +kernel
theorem dX4_hill_10 : decode cX4_hill 10 = .ok (.ifCond .ne 9, 3) := by decide +kernel
theorem dX4_hill_13 : decode cX4_hill 13 = .ok (.aload_n 0, 1) := by decide +kernel
theorem dX4_hill_14 : decode cX4_hill 14 = .ok (.iconst 1, 1) := by decide +kernel
theorem dX4_hill_15 : decode cX4_hill 15 = .ok (.invokevirtual 91, 3) := by decide +kernel
theorem dX4_hill_18 : decode cX4_hill 18 = .ok (.ireturn, 1) := by decide +kernel
