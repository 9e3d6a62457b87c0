theorem dX4_table_17 : decode cX4_table 17 = .ok (.iastore, 1) := by decide +kernel
theorem dX4_table_18 : decode cX4_table 18 = .ok (.aastore, 1) := by decide +kernel
theorem dX4_table_19 : decode cX4_table 19 = .ok (.areturn, 1) := by decide +kernel
theorem dX4_table_20 : decode cX4_table 20 = .ok (.iload_n 0, 1) := by decide +kernel
theorem dX4_table_21 : decode cX4_table 21 = .ok (.iconst 2, 1) := by decide +kernel
theorem dX4_table_22 : decode cX4_table 22 = .ok (.idiv, 1) := by decide +kernel
theorem dX4_table_23 : decode cX4_table 23 = .ok (.invokestatic 7, 3) := by decide +kernel
theorem dX4_table_26 : decode cX4_table 26 = .ok (.astore_n 1, 1) := by decide +kernel
theorem dX4_table_27 : decode cX4_table 27 = .ok (.iload_n 0, 1) := by decide +kernel
theorem dX4_table_28 : decode cX4_table 28 = .ok (.iload_n 0, 1) := by decide +kernel
theorem dX4_table_29 : decode cX4_table 29 = .ok (.multianewarray 28 2, 4) := by decide +kernel
theorem dX4_table_33 : decode cX4_table 33 = .ok (.astore_n 2, 1) := by decide +kernel
theorem dX4_table_34 : decode cX4_table 34 = .ok (.iconst 0, 1) := by decide +kernel
theorem dX4_table_35 : decode cX4_table 35 = .ok (.istore_n 3, 1) := by decide +kernel
theorem dX4_table_36 : decode cX4_table 36 = .ok (.iload_n 3, 1) := by decide +kernel
theorem dX4_table_37 : decode cX4_table 37 = .ok (.iload_n 0, 1) := by decide +kernel
theorem dX4_table_38 : decode cX4_table 38 = .ok (.if_icmp .ge 61, 3) := by decide +kernel
theorem dX4_table_41 : decode cX4_table 41 = .ok (.iconst 0, 1) := by decide +kernel
theorem dX4_table_42 : decode cX4_table 42 = .ok (.istore 4, 2) := by decide +kernel
theorem dX4_table_44 : decode cX4_table 44 = .ok (.iload 4, 2) := by decide +kernel
theorem dX4_table_46 : decode cX4_table 46 = .ok (.iload_n 0, 1) := by decide +kernel
theorem dX4_table_47 : decode cX4_table 47 = .ok (.if_icmp .ge 46, 3) := by decide +kernel
theorem dX4_table_50 : decode cX4_table 50 = .ok (.aload_n 2, 1) := by decide +kernel
theorem dX4_table_51 : decode cX4_table 51 = .ok (.iload_n 3, 1) := by decide +kernel
theorem dX4_table_52 : decode cX4_table 52 = .ok (.aaload, 1) := by decide +kernel
theorem dX4_table_53 : decode cX4_table 53 = .ok (.iload 4, 2) := by decide +kernel
theorem dX4_table_55 : decode cX4_table 55 = .ok (.aload_n 1, 1) := by decide +kernel
theorem dX4_table_56 : decode cX4_table 56 = .ok (.iload_n 3, 1) := by decide +kernel
theorem dX4_table_57 : decode cX4_table 57 = .ok (.aload_n 1, 1) := by decide +kernel
theorem dX4_table_58 : decode cX4_table 58 = .ok (.arraylength, 1) := by decide +kernel
theorem dX4_table_59 : decode cX4_table 59 = .ok (.irem, 1) := by decide +kernel
theorem dX4_table_60 : decode cX4_table 60 = .ok (.aaload, 1) := by decide +kernel
theorem dX4_table_61 : decode cX4_table 61 = .ok (.iload 4, 2) := by decide +kernel
theorem dX4_table_63 : decode cX4_table 63 = .ok (.aload_n 1, 1) := by decide +kernel
theorem dX4_table_64 : decode cX4_table 64 = .ok (.arraylength, 1) := by decide +kernel
theorem dX4_table_65 : decode cX4_table 65 = .ok (.irem, 1) := by decide +kernel
theorem dX4_table_66 : decode cX4_table 66 = .ok (.iaload, 1) := by decide +kernel
theorem dX4_table_67 : decode cX4_table 67 = .ok (.iload_n 3, 1) := by decide +kernel
theorem dX4_table_68 : decode cX4_table 68 = .ok (.aload_n 1, 1) := by decide +kernel
theorem dX4_table_69 : decode cX4_table 69 = .ok (.arraylength, 1) := by decide +kernel
theorem dX4_table_70 : decode cX4_table 70 = .ok (.if_icmp .lt 14, 3) := by decide +kernel
theorem dX4_table_73 : decode cX4_table 73 = .ok (.iload 4, 2) := by decide +kernel
theorem dX4_table_75 : decode cX4_table 75 = .ok (.aload_n 1, 1) := by decide +kernel
theorem dX4_table_76 : decode cX4_table 76 = .ok (.arraylength, 1) := by decide +kernel
theorem dX4_table_77 : decode cX4_table 77 = .ok (.if_icmp .lt 7, 3) := by decide +kernel
theorem dX4_table_80 : decode cX4_table 80 = .ok (.iconst (-1), 1) := by decide +kernel
theorem dX4_table_81 : decode cX4_table 81 = .ok (.goto 4, 3) := by decide +kernel
theorem dX4_table_84 : decode cX4_table 84 = .ok (.iconst 1, 1) := by decide +kernel
theorem dX4_table_85 : decode cX4_table 85 = .ok (.imul, 1) := by decide +kernel
theorem dX4_table_86 : decode cX4_table 86 = .ok (.iastore, 1) := by decide +kernel
theorem dX4_table_87 : decode cX4_table 87 = .ok (.iinc 4 1, 3) := by decide +kernel
theorem dX4_table_90 : decode cX4_table 90 = .ok (.goto (-46), 3) := by decide +kernel
theorem dX4_table_93 : decode cX4_table 93 = .ok (.iinc 3 1, 3) := by decide +kernel
theorem dX4_table_96 : decode cX4_table 96 = .ok (.goto (-60), 3) := by decide +kernel
theorem dX4_table_99 : decode cX4_table 99 = .ok (.aload_n 2, 1) := by decide +kernel
theorem dX4_table_100 : decode cX4_table 100 = .ok (.areturn, 1) := by decide +kernel
theorem dX4_more_0 : decode cX4_more 0 = .ok (.aload_n 0, 1) := by decide +kernel
theorem dX4_more_1 : decode cX4_more 1 = .ok (.arraylength, 1) := by decide +kernel
theorem dX4_more_2 : decode cX4_more 2 = .ok (.iconst 1, 1) := by decide +kernel
theorem dX4_more_3 : decode cX4_more 3 = .ok (.iadd, 1) := by decide +kernel
theorem dX4_more_4 : decode cX4_more 4 = .ok (.anewarray 17, 3) := by decide +kernel
theorem dX4_more_7 : decode cX4_more 7 = .ok (.astore_n 2, 1) := by decide +kernel
theorem dX4_more_8 : decode cX4_more 8 = .ok (.iconst 0, 1) := by decide +kernel
theorem dX4_more_9 : decode cX4_more 9 = .ok (.istore_n 3, 1) := by decide +kernel
theorem dX4_more_10 : decode cX4_more 10 = .ok (.iload_n 3, 1) := by decide +kernel
theorem dX4_more_11 : decode cX4_more 11 = .ok (.aload_n 0, 1) := by decide +kernel
theorem dX4_more_12 : decode cX4_more 12 = .ok (.arraylength, 1) := by decide +kernel
theorem dX4_more_13 : decode cX4_more 13 = .ok (.if_icmp .ge 15, 3) := by decide +kernel
theorem dX4_more_16 : decode cX4_more 16 = .ok (.aload_n 2, 1) := by decide +kernel
theorem dX4_more_17 : decode cX4_more 17 = .ok (.iload_n 3, 1) := by decide +kernel
theorem dX4_more_18 : decode cX4_more 18 = .ok (.aload_n 0, 1) := by decide +kernel
theorem dX4_more_19 : decode cX4_more 19 = .ok (.iload_n 3, 1) := by decide +kernel
theorem dX4_more_20 : decode cX4_more 20 = .ok (.aaload, 1) := by decide +kernel
theorem dX4_more_21 : decode cX4_more 21 = .ok (.aastore, 1) := by decide +kernel
theorem dX4_more_22 : decode cX4_more 22 = .ok (.iinc 3 1, 3) := by decide +kernel
theorem dX4_more_25 : decode cX4_more 25 = .ok (.goto (-15), 3) := by decide +kernel
theorem dX4_more_28 : decode cX4_more 28 = .ok (.aload_n 2, 1) := by decide +kernel
theorem dX4_more_29 : decode cX4_more 29 = .ok (.aload_n 0, 1) := by decide +kernel
theorem dX4_more_30 : decode cX4_more 30 = .ok (.arraylength, 1) := by decide +kernel
theorem dX4_more_31 : decode cX4_more 31 = .ok (.aload_n 1, 1) := by decide +kernel
theorem dX4_more_32 : decode cX4_more 32 = .ok (.aastore, 1) := by decide +kernel
theorem dX4_more_33 : decode cX4_more 33 = .ok (.aload_n 2, 1) := by decide +kernel
theorem dX4_more_34 : decode cX4_more 34 = .ok (.areturn, 1) := by decide +kernel
theorem dX4_length_0 : decode cX4_length 0 = .ok (.aload_n 0, 1) := by decide +kernel
theorem dX4_length_1 : decode cX4_length 1 = .ok (.getfield 13, 3) := by decide +kernel
theorem dX4_length_4 : decode cX4_length 4 = .ok (.arraylength, 1) := by decide +kernel
theorem dX4_length_5 : decode cX4_length 5 = .ok (.ireturn, 1) := by decide +kernel
set_option maxRecDepth 20000 in
theorem ggX4_end_X4_length : GoodIn wsX4_end wsX4_length := goodIn_r _ [7, 8, 9, 10, 11, 12] (by decide +kernel) (by decide +kernel)
set_option maxRecDepth 20000 in
theorem gX4_end_X4_length : GoodIn wsX4_end (wsV RX4 29 RX4 yX4_length wsX4_length) := goodIn_app (goodIn_of _ (by decide +kernel)) ggX4_end_X4_length
theorem dX4_end_0 : decode cX4_end 0 = .ok (.aload_n 0, 1) := by decide +kernel
theorem dX4_end_1 : decode cX4_end 1 = .ok (.getfield 22, 3) := by decide +kernel
theorem dX4_end_4 : decode cX4_end 4 = .ok (.iload_n 1, 1) := by decide +kernel
theorem dX4_end_5 : decode cX4_end 5 = .ok (.aaload, 1) := by decide +kernel
theorem dX4_end_6 : decode cX4_end 6 = .ok (.arraylength, 1) := by decide +kernel
theorem dX4_end_7 : decode cX4_end 7 = .ok (.ifCond .ne 7, 3) := by decide +kernel
theorem dX4_end_10 : decode cX4_end 10 = .ok (.iconst 0, 1) := by decide +kernel
theorem dX4_end_11 : decode cX4_end 11 = .ok (.goto 24, 3) := by decide +kernel
theorem dX4_end_14 : decode cX4_end 14 = .ok (.aload_n 0, 1) := by decide +kernel
theorem dX4_end_15 : decode cX4_end 15 = .ok (.getfield 19, 3) := by decide +kernel
theorem dX4_end_18 : decode cX4_end 18 = .ok (.iload_n 1, 1) := by decide +kernel
theorem dX4_end_19 : decode cX4_end 19 = .ok (.aaload, 1) := by decide +kernel
theorem dX4_end_20 : decode cX4_end 20 = .ok (.iconst 2, 1) := by decide +kernel
theorem dX4_end_21 : decode cX4_end 21 = .ok (.iaload, 1) := by decide +kernel
theorem dX4_end_22 : decode cX4_end 22 = .ok (.aload_n 0, 1) := by decide +kernel
theorem dX4_end_23 : decode cX4_end 23 = .ok (.invokevirtual 29, 3) := by decide +kernel
theorem dX4_end_26 : decode cX4_end 26 = .ok (.aload_n 0, 1) := by decide +kernel
theorem dX4_end_27 : decode cX4_end 27 = .ok (.getfield 22, 3) := by decide +kernel
theorem dX4_end_30 : decode cX4_end 30 = .ok (.iload_n 1, 1) := by decide +kernel
theorem dX4_end_31 : decode cX4_end 31 = .ok (.aaload, 1) := by decide +kernel
theorem dX4_end_32 : decode cX4_end 32 = .ok (.arraylength, 1) := by decide +kernel
theorem dX4_end_33 : decode cX4_end 33 = .ok (.imul, 1) := by decide +kernel
theorem dX4_end_34 : decode cX4_end 34 = .ok (.iadd, 1) := by decide +kernel
theorem dX4_end_35 : decode cX4_end 35 = .ok (.ireturn, 1) := by decide +kernel
set_option maxRecDepth 20000 in
theorem ggX4_end__X4_end : GoodIn wsX4_end_ wsX4_end := goodIn_r _ [10, 11, 1, 12, 13, 14, 9, 15, 16, 17, 18, 19, 20] (by decide +kernel) (by decide +kernel)
set_option maxRecDepth 20000 in
theorem gX4_end__X4_end : GoodIn wsX4_end_ (wsV RX4 33 RX4 yX4_end wsX4_end) := goodIn_app (goodIn_of _ (by decide +kernel)) ggX4_end__X4_end
theorem dX4_end__0 : decode cX4_end_ 0 = .ok (.iconst 0, 1) := by decide +kernel
theorem dX4_end__1 : decode cX4_end_ 1 = .ok (.istore_n 1, 1) := by decide +kernel
theorem dX4_end__2 : decode cX4_end_ 2 = .ok (.iconst 0, 1) := by decide +kernel
theorem dX4_end__3 : decode cX4_end_ 3 = .ok (.istore_n 2, 1) := by decide +kernel
theorem dX4_end__4 : decode cX4_end_ 4 = .ok (.iload_n 2, 1) := by decide +kernel
theorem dX4_end__5 : decode cX4_end_ 5 = .ok (.aload_n 0, 1) := by decide +kernel
theorem dX4_end__6 : decode cX4_end_ 6 = .ok (.getfield 19, 3) := by decide +kernel
theorem dX4_end__9 : decode cX4_end_ 9 = .ok (.arraylength, 1) := by decide +kernel
theorem dX4_end__10 : decode cX4_end_ 10 = .ok (.if_icmp .ge 19, 3) := by decide +kernel
theorem dX4_end__13 : decode cX4_end_ 13 = .ok (.iload_n 1, 1) := by decide +kernel
theorem dX4_end__14 : decode cX4_end_ 14 = .ok (.aload_n 0, 1) := by decide +kernel
theorem dX4_end__15 : decode cX4_end_ 15 = .ok (.iload_n 2, 1) := by decide +kernel
theorem dX4_end__16 : decode cX4_end_ 16 = .ok (.invokevirtual 33, 3) := by decide +kernel
theorem dX4_end__19 : decode cX4_end_ 19 = .ok (.invokestatic 37, 3) := by decide +kernel
theorem dX4_end__22 : decode cX4_end_ 22 = .ok (.istore_n 1, 1) := by decide +kernel
theorem dX4_end__23 : decode cX4_end_ 23 = .ok (.iinc 2 1, 3) := by decide +kernel
theorem dX4_end__26 : decode cX4_end_ 26 = .ok (.goto (-22), 3) := by decide +kernel
theorem dX4_end__29 : decode cX4_end_ 29 = .ok (.iload_n 1, 1) := by decide +kernel
theorem dX4_end__30 : decode cX4_end_ 30 = .ok (.ireturn, 1) := by decide +kernel
theorem dX4_sky_0 : decode cX4_sky 0 = .ok (.sipush 1020, 3) := by decide +kernel
theorem dX4_sky_3 : decode cX4_sky 3 = .ok (.newarray .int, 2) := by decide +kernel
theorem dX4_sky_5 : decode cX4_sky 5 = .ok (.astore_n 1, 1) := by decide +kernel
theorem dX4_sky_6 : decode cX4_sky 6 = .ok (.iconst 0, 1) := by decide +kernel
theorem dX4_sky_7 : decode cX4_sky 7 = .ok (.istore_n 2, 1) := by decide +kernel
theorem dX4_sky_8 : decode cX4_sky 8 = .ok (.iload_n 2, 1) := by decide +kernel
theorem dX4_sky_9 : decode cX4_sky 9 = .ok (.aload_n 1, 1) := by decide +kernel
theorem dX4_sky_10 : decode cX4_sky 10 = .ok (.arraylength, 1) := by decide +kernel
theorem dX4_sky_11 : decode cX4_sky 11 = .ok (.if_icmp .ge 21, 3) := by decide +kernel
theorem dX4_sky_14 : decode cX4_sky 14 = .ok (.aload_n 1, 1) := by decide +kernel
theorem dX4_sky_15 : decode cX4_sky 15 = .ok (.iload_n 2, 1) := by decide +kernel
theorem dX4_sky_16 : decode cX4_sky 16 = .ok (.aload_n 0, 1) := by decide +kernel
theorem dX4_sky_17 : decode cX4_sky 17 = .ok (.getfield 25, 3) := by decide +kernel
theorem dX4_sky_20 : decode cX4_sky 20 = .ok (.iload_n 2, 1) := by decide +kernel
theorem dX4_sky_21 : decode cX4_sky 21 = .ok (.bipush 20, 2) := by decide +kernel
theorem dX4_sky_23 : decode cX4_sky 23 = .ok (.irem, 1) := by decide +kernel
theorem dX4_sky_24 : decode cX4_sky 24 = .ok (.iaload, 1) := by decide +kernel
theorem dX4_sky_25 : decode cX4_sky 25 = .ok (.iastore, 1) := by decide +kernel
theorem dX4_sky_26 : decode cX4_sky 26 = .ok (.iinc 2 1, 3) := by decide +kernel
theorem dX4_sky_29 : decode cX4_sky 29 = .ok (.goto (-21), 3) := by decide +kernel
theorem dX4_sky_32 : decode cX4_sky 32 = .ok (.iconst 0, 1) := by decide +kernel
theorem dX4_sky_33 : decode cX4_sky 33 = .ok (.istore_n 2, 1) := by decide +kernel
theorem dX4_sky_34 : decode cX4_sky 34 = .ok (.iload_n 2, 1) := by decide +kernel
theorem dX4_sky_35 : decode cX4_sky 35 = .ok (.aload_n 0, 1) := by decide +kernel
theorem dX4_sky_36 : decode cX4_sky 36 = .ok (.getfield 19, 3) := by decide +kernel
theorem dX4_sky_39 : decode cX4_sky 39 = .ok (.arraylength, 1) := by decide +kernel
theorem dX4_sky_40 : decode cX4_sky 40 = .ok (.if_icmp .ge 120, 3) := by decide +kernel
theorem dX4_sky_43 : decode cX4_sky 43 = .ok (.aload_n 0, 1) := by decide +kernel
theorem dX4_sky_44 : decode cX4_sky 44 = .ok (.getfield 19, 3) := by decide +kernel
theorem dX4_sky_47 : decode cX4_sky 47 = .ok (.iload_n 2, 1) := by decide +kernel
theorem dX4_sky_48 : decode cX4_sky 48 = .ok (.aaload, 1) := by decide +kernel
theorem dX4_sky_49 : decode cX4_sky 49 = .ok (.iconst 2, 1) := by decide +kernel
theorem dX4_sky_50 : decode cX4_sky 50 = .ok (.iaload, 1) := by decide +kernel
theorem dX4_sky_51 : decode cX4_sky 51 = .ok (.istore_n 3, 1) := by decide +kernel
theorem dX4_sky_52 : decode cX4_sky 52 = .ok (.aload_n 0, 1) := by decide +kernel
theorem dX4_sky_53 : decode cX4_sky 53 = .ok (.getfield 22, 3) := by decide +kernel
theorem dX4_sky_56 : decode cX4_sky 56 = .ok (.iload_n 2, 1) := by decide +kernel
theorem dX4_sky_57 : decode cX4_sky 57 = .ok (.aaload, 1) := by decide +kernel
theorem dX4_sky_58 : decode cX4_sky 58 = .ok (.astore 4, 2) := by decide +kernel
theorem dX4_sky_60 : decode cX4_sky 60 = .ok (.aload 4, 2) := by decide +kernel
theorem dX4_sky_62 : decode cX4_sky 62 = .ok (.arraylength, 1) := by decide +kernel
theorem dX4_sky_63 : decode cX4_sky 63 = .ok (.istore 5, 2) := by decide +kernel
theorem dX4_sky_65 : decode cX4_sky 65 = .ok (.iconst 0, 1) := by decide +kernel
theorem dX4_sky_66 : decode cX4_sky 66 = .ok (.istore 6, 2) := by decide +kernel
theorem dX4_sky_68 : decode cX4_sky 68 = .ok (.iload 6, 2) := by decide +kernel
theorem dX4_sky_70 : decode cX4_sky 70 = .ok (.iload 5, 2) := by decide +kernel
theorem dX4_sky_72 : decode cX4_sky 72 = .ok (.if_icmp .ge 82, 3) := by decide +kernel
theorem dX4_sky_75 : decode cX4_sky 75 = .ok (.aload 4, 2) := by decide +kernel
theorem dX4_sky_77 : decode cX4_sky 77 = .ok (.iload 6, 2) := by decide +kernel
theorem dX4_sky_79 : decode cX4_sky 79 = .ok (.iaload, 1) := by decide +kernel
theorem dX4_sky_80 : decode cX4_sky 80 = .ok (.istore 7, 2) := by decide +kernel
theorem dX4_sky_82 : decode cX4_sky 82 = .ok (.aload_n 0, 1) := by decide +kernel
theorem dX4_sky_83 : decode cX4_sky 83 = .ok (.getfield 13, 3) := by decide +kernel
theorem dX4_sky_86 : decode cX4_sky 86 = .ok (.aload_n 0, 1) := by decide +kernel
theorem dX4_sky_87 : decode cX4_sky 87 = .ok (.getfield 19, 3) := by decide +kernel
theorem dX4_sky_90 : decode cX4_sky 90 = .ok (.iload_n 2, 1) := by decide +kernel
theorem dX4_sky_91 : decode cX4_sky 91 = .ok (.aaload, 1) := by decide +kernel
theorem dX4_sky_92 : decode cX4_sky 92 = .ok (.iconst 0, 1) := by decide +kernel
theorem dX4_sky_93 : decode cX4_sky 93 = .ok (.iaload, 1) := by decide +kernel
theorem dX4_sky_94 : decode cX4_sky 94 = .ok (.aaload, 1) := by decide +kernel
theorem dX4_sky_95 : decode cX4_sky 95 = .ok (.astore 8, 2) := by decide +kernel
theorem dX4_sky_97 : decode cX4_sky 97 = .ok (.aload 8, 2) := by decide +kernel
theorem dX4_sky_99 : decode cX4_sky 99 = .ok (.arraylength, 1) := by decide +kernel
theorem dX4_sky_100 : decode cX4_sky 100 = .ok (.istore 9, 2) := by decide +kernel
theorem dX4_sky_102 : decode cX4_sky 102 = .ok (.iconst 0, 1) := by decide +kernel
theorem dX4_sky_103 : decode cX4_sky 103 = .ok (.istore 10, 2) := by decide +kernel
theorem dX4_sky_105 : decode cX4_sky 105 = .ok (.iload 10, 2) := by decide +kernel
theorem dX4_sky_107 : decode cX4_sky 107 = .ok (.iload 9, 2) := by decide +kernel
theorem dX4_sky_109 : decode cX4_sky 109 = .ok (.if_icmp .ge 39, 3) := by decide +kernel
theorem dX4_sky_112 : decode cX4_sky 112 = .ok (.aload 8, 2) := by decide +kernel
theorem dX4_sky_114 : decode cX4_sky 114 = .ok (.iload 10, 2) := by decide +kernel
theorem dX4_sky_116 : decode cX4_sky 116 = .ok (.iaload, 1) := by decide +kernel
theorem dX4_sky_117 : decode cX4_sky 117 = .ok (.istore 11, 2) := by decide +kernel
theorem dX4_sky_119 : decode cX4_sky 119 = .ok (.aload_n 1, 1) := by decide +kernel
theorem dX4_sky_120 : decode cX4_sky 120 = .ok (.iload_n 3, 1) := by decide +kernel
theorem dX4_sky_121 : decode cX4_sky 121 = .ok (.dup2, 1) := by decide +kernel
theorem dX4_sky_122 : decode cX4_sky 122 = .ok (.iaload, 1) := by decide +kernel
theorem dX4_sky_123 : decode cX4_sky 123 = .ok (.aload_n 0, 1) := by decide +kernel
theorem dX4_sky_124 : decode cX4_sky 124 = .ok (.getfield 19, 3) := by decide +kernel
theorem dX4_sky_127 : decode cX4_sky 127 = .ok (.iload_n 2, 1) := by decide +kernel
theorem dX4_sky_128 : decode cX4_sky 128 = .ok (.aaload, 1) := by decide +kernel
theorem dX4_sky_129 : decode cX4_sky 129 = .ok (.iconst 1, 1) := by decide +kernel
theorem dX4_sky_130 : decode cX4_sky 130 = .ok (.iaload, 1) := by decide +kernel
theorem dX4_sky_131 : decode cX4_sky 131 = .ok (.iload 7, 2) := by decide +kernel
theorem dX4_sky_133 : decode cX4_sky 133 = .ok (.imul, 1) := by decide +kernel
theorem dX4_sky_134 : decode cX4_sky 134 = .ok (.iload 11, 2) := by decide +kernel
theorem dX4_sky_136 : decode cX4_sky 136 = .ok (.imul, 1) := by decide +kernel
theorem dX4_sky_137 : decode cX4_sky 137 = .ok (.iadd, 1) := by decide +kernel
theorem dX4_sky_138 : decode cX4_sky 138 = .ok (.iastore, 1) := by decide +kernel
theorem dX4_sky_139 : decode cX4_sky 139 = .ok (.iinc 3 1, 3) := by decide +kernel
theorem dX4_sky_142 : decode cX4_sky 142 = .ok (.iinc 10 1, 3) := by decide +kernel
theorem dX4_sky_145 : decode cX4_sky 145 = .ok (.goto (-40), 3) := by decide +kernel
theorem dX4_sky_148 : decode cX4_sky 148 = .ok (.iinc 6 1, 3) := by decide +kernel
theorem dX4_sky_151 : decode cX4_sky 151 = .ok (.goto (-83), 3) := by decide +kernel
theorem dX4_sky_154 : decode cX4_sky 154 = .ok (.iinc 2 1, 3) := by decide +kernel
theorem dX4_sky_157 : decode cX4_sky 157 = .ok (.goto (-123), 3) := by decide +kernel
theorem dX4_sky_160 : decode cX4_sky 160 = .ok (.aload_n 1, 1) := by decide +kernel
theorem dX4_sky_161 : decode cX4_sky 161 = .ok (.areturn, 1) := by decide +kernel
set_option maxRecDepth 20000 in
theorem ggX4_hear_X4_length : GoodIn wsX4_hear wsX4_length := goodIn_r _ [6, 1, 7, 8, 9, 10] (by decide +kernel) (by decide +kernel)
set_option maxRecDepth 20000 in
theorem gX4_hear_X4_length : GoodIn wsX4_hear (wsV RX4 29 RX4 yX4_length wsX4_length) := goodIn_app (goodIn_of _ (by decide +kernel)) ggX4_hear_X4_length
theorem dX4_hear_0 : decode cX4_hear 0 = .ok (.iconst 0, 1) := by decide +kernel
theorem dX4_hear_1 : decode cX4_hear 1 = .ok (.istore 4, 2) := by decide +kernel
theorem dX4_hear_3 : decode cX4_hear 3 = .ok (.iconst 0, 1) := by decide +kernel
theorem dX4_hear_4 : decode cX4_hear 4 = .ok (.istore 5, 2) := by decide +kernel
theorem dX4_hear_6 : decode cX4_hear 6 = .ok (.iload 5, 2) := by decide +kernel
theorem dX4_hear_8 : decode cX4_hear 8 = .ok (.aload_n 0, 1) := by decide +kernel
theorem dX4_hear_9 : decode cX4_hear 9 = .ok (.invokevirtual 29, 3) := by decide +kernel
theorem dX4_hear_12 : decode cX4_hear 12 = .ok (.if_icmp .ge 42, 3) := by decide +kernel
theorem dX4_hear_15 : decode cX4_hear 15 = .ok (.iload 4, 2) := by decide +kernel
theorem dX4_hear_17 : decode cX4_hear 17 = .ok (.aload_n 0, 1) := by decide +kernel
theorem dX4_hear_18 : decode cX4_hear 18 = .ok (.getfield 13, 3) := by decide +kernel
theorem dX4_hear_21 : decode cX4_hear 21 = .ok (.iload_n 2, 1) := by decide +kernel
theorem dX4_hear_22 : decode cX4_hear 22 = .ok (.aaload, 1) := by decide +kernel
theorem dX4_hear_23 : decode cX4_hear 23 = .ok (.iload 5, 2) := by decide +kernel
theorem dX4_hear_25 : decode cX4_hear 25 = .ok (.iaload, 1) := by decide +kernel
theorem dX4_hear_26 : decode cX4_hear 26 = .ok (.ifCond .le 12, 3) := by decide +kernel
theorem dX4_hear_29 : decode cX4_hear 29 = .ok (.aload_n 1, 1) := by decide +kernel
theorem dX4_hear_30 : decode cX4_hear 30 = .ok (.iload_n 3, 1) := by decide +kernel
theorem dX4_hear_31 : decode cX4_hear 31 = .ok (.iload 5, 2) := by decide +kernel
theorem dX4_hear_33 : decode cX4_hear 33 = .ok (.iadd, 1) := by decide +kernel
theorem dX4_hear_34 : decode cX4_hear 34 = .ok (.iaload, 1) := by decide +kernel
theorem dX4_hear_35 : decode cX4_hear 35 = .ok (.goto 10, 3) := by decide +kernel
theorem dX4_hear_38 : decode cX4_hear 38 = .ok (.aload_n 1, 1) := by decide +kernel
theorem dX4_hear_39 : decode cX4_hear 39 = .ok (.iload_n 3, 1) := by decide +kernel
theorem dX4_hear_40 : decode cX4_hear 40 = .ok (.iload 5, 2) := by decide +kernel
theorem dX4_hear_42 : decode cX4_hear 42 = .ok (.iadd, 1) := by decide +kernel
theorem dX4_hear_43 : decode cX4_hear 43 = .ok (.iaload, 1) := by decide +kernel
theorem dX4_hear_44 : decode cX4_hear 44 = .ok (.ineg, 1) := by decide +kernel
theorem dX4_hear_45 : decode cX4_hear 45 = .ok (.iadd, 1) := by decide +kernel
theorem dX4_hear_46 : decode cX4_hear 46 = .ok (.istore 4, 2) := by decide +kernel
theorem dX4_hear_48 : decode cX4_hear 48 = .ok (.iinc 5 1, 3) := by decide +kernel
theorem dX4_hear_51 : decode cX4_hear 51 = .ok (.goto (-45), 3) := by decide +kernel
theorem dX4_hear_54 : decode cX4_hear 54 = .ok (.iload 4, 2) := by decide +kernel
theorem dX4_hear_56 : decode cX4_hear 56 = .ok (.ireturn, 1) := by decide +kernel
set_option maxRecDepth 20000 in
theorem ggX4_heard_X4_length : GoodIn wsX4_heard wsX4_length := goodIn_r _ [6, 7, 12, 13, 14, 15] (by decide +kernel) (by decide +kernel)
set_option maxRecDepth 20000 in
theorem gX4_heard_X4_length : GoodIn wsX4_heard (wsV RX4 29 RX4 yX4_length wsX4_length) := goodIn_app (goodIn_of _ (by decide +kernel)) ggX4_heard_X4_length
set_option maxRecDepth 20000 in
theorem ggX4_heard_X4_hear : GoodIn wsX4_heard wsX4_hear := goodIn_r _ [11, 7, 2, 3, 4, 5, 6, 12, 13, 14, 15] (by decide +kernel) (by decide +kernel)
set_option maxRecDepth 20000 in
theorem gX4_heard_X4_hear : GoodIn wsX4_heard (wsV RX4 43 RX4 yX4_hear wsX4_hear) := goodIn_app (goodIn_of _ (by decide +kernel)) ggX4_heard_X4_hear
theorem dX4_heard_0 : decode cX4_heard 0 = .ok (.aload_n 0, 1) := by decide +kernel
theorem dX4_heard_1 : decode cX4_heard 1 = .ok (.aload_n 1, 1) := by decide +kernel
theorem dX4_heard_2 : decode cX4_heard 2 = .ok (.aload_n 0, 1) := by decide +kernel
theorem dX4_heard_3 : decode cX4_heard 3 = .ok (.getfield 19, 3) := by decide +kernel
theorem dX4_heard_6 : decode cX4_heard 6 = .ok (.iload_n 2, 1) := by decide +kernel
theorem dX4_heard_7 : decode cX4_heard 7 = .ok (.aaload, 1) := by decide +kernel
theorem dX4_heard_8 : decode cX4_heard 8 = .ok (.iconst 0, 1) := by decide +kernel
theorem dX4_heard_9 : decode cX4_heard 9 = .ok (.iaload, 1) := by decide +kernel
theorem dX4_heard_10 : decode cX4_heard 10 = .ok (.aload_n 0, 1) := by decide +kernel
theorem dX4_heard_11 : decode cX4_heard 11 = .ok (.getfield 19, 3) := by decide +kernel
theorem dX4_heard_14 : decode cX4_heard 14 = .ok (.iload_n 2, 1) := by decide +kernel
theorem dX4_heard_15 : decode cX4_heard 15 = .ok (.aaload, 1) := by decide +kernel
theorem dX4_heard_16 : decode cX4_heard 16 = .ok (.iconst 2, 1) := by decide +kernel
theorem dX4_heard_17 : decode cX4_heard 17 = .ok (.iaload, 1) := by decide +kernel
theorem dX4_heard_18 : decode cX4_heard 18 = .ok (.iload_n 3, 1) := by decide +kernel
theorem dX4_heard_19 : decode cX4_heard 19 = .ok (.aload_n 0, 1) := by decide +kernel
theorem dX4_heard_20 : decode cX4_heard 20 = .ok (.invokevirtual 29, 3) := by decide +kernel
theorem dX4_heard_23 : decode cX4_heard 23 = .ok (.imul, 1) := by decide +kernel
theorem dX4_heard_24 : decode cX4_heard 24 = .ok (.iadd, 1) := by decide +kernel
theorem dX4_heard_25 : decode cX4_heard 25 = .ok (.invokevirtual 43, 3) := by decide +kernel
theorem dX4_heard_28 : decode cX4_heard 28 = .ok (.ireturn, 1) := by decide +kernel
set_option maxRecDepth 20000 in
theorem ggX4_wrong_X4_heard : GoodIn wsX4_wrong wsX4_heard := goodIn_r _ [6, 7, 8, 9, 10, 5, 11, 12, 13, 14, 15, 16, 17, 18, 19, 20] (by decide +kernel) (by decide +kernel)
set_option maxRecDepth 20000 in
theorem gX4_wrong_X4_heard : GoodIn wsX4_wrong (wsV RX4 47 RX4 yX4_heard wsX4_heard) := goodIn_app (goodIn_of _ (by decide +kernel)) ggX4_wrong_X4_heard
theorem dX4_wrong_0 : decode cX4_wrong 0 = .ok (.iconst 0, 1) := by decide +kernel
theorem dX4_wrong_1 : decode cX4_wrong 1 = .ok (.istore_n 3, 1) := by decide +kernel
theorem dX4_wrong_2 : decode cX4_wrong 2 = .ok (.iconst 0, 1) := by decide +kernel
theorem dX4_wrong_3 : decode cX4_wrong 3 = .ok (.istore 4, 2) := by decide +kernel
theorem dX4_wrong_5 : decode cX4_wrong 5 = .ok (.iload 4, 2) := by decide +kernel
theorem dX4_wrong_7 : decode cX4_wrong 7 = .ok (.aload_n 0, 1) := by decide +kernel
theorem dX4_wrong_8 : decode cX4_wrong 8 = .ok (.getfield 22, 3) := by decide +kernel
theorem dX4_wrong_11 : decode cX4_wrong 11 = .ok (.iload_n 2, 1) := by decide +kernel
theorem dX4_wrong_12 : decode cX4_wrong 12 = .ok (.aaload, 1) := by decide +kernel
theorem dX4_wrong_13 : decode cX4_wrong 13 = .ok (.arraylength, 1) := by decide +kernel
theorem dX4_wrong_14 : decode cX4_wrong 14 = .ok (.if_icmp .ge 38, 3) := by decide +kernel
theorem dX4_wrong_17 : decode cX4_wrong 17 = .ok (.iload_n 3, 1) := by decide +kernel
theorem dX4_wrong_18 : decode cX4_wrong 18 = .ok (.aload_n 0, 1) := by decide +kernel
theorem dX4_wrong_19 : decode cX4_wrong 19 = .ok (.getfield 22, 3) := by decide +kernel
theorem dX4_wrong_22 : decode cX4_wrong 22 = .ok (.iload_n 2, 1) := by decide +kernel
theorem dX4_wrong_23 : decode cX4_wrong 23 = .ok (.aaload, 1) := by decide +kernel
theorem dX4_wrong_24 : decode cX4_wrong 24 = .ok (.iload 4, 2) := by decide +kernel
theorem dX4_wrong_26 : decode cX4_wrong 26 = .ok (.iaload, 1) := by decide +kernel
theorem dX4_wrong_27 : decode cX4_wrong 27 = .ok (.aload_n 0, 1) := by decide +kernel
theorem dX4_wrong_28 : decode cX4_wrong 28 = .ok (.aload_n 1, 1) := by decide +kernel
theorem dX4_wrong_29 : decode cX4_wrong 29 = .ok (.iload_n 2, 1) := by decide +kernel
theorem dX4_wrong_30 : decode cX4_wrong 30 = .ok (.iload 4, 2) := by decide +kernel
theorem dX4_wrong_32 : decode cX4_wrong 32 = .ok (.invokevirtual 47, 3) := by decide +kernel
theorem dX4_wrong_35 : decode cX4_wrong 35 = .ok (.imul, 1) := by decide +kernel
theorem dX4_wrong_36 : decode cX4_wrong 36 = .ok (.ifCond .le 7, 3) := by decide +kernel
theorem dX4_wrong_39 : decode cX4_wrong 39 = .ok (.iconst 0, 1) := by decide +kernel
theorem dX4_wrong_40 : decode cX4_wrong 40 = .ok (.goto 4, 3) := by decide +kernel
theorem dX4_wrong_43 : decode cX4_wrong 43 = .ok (.iconst 1, 1) := by decide +kernel
theorem dX4_wrong_44 : decode cX4_wrong 44 = .ok (.iadd, 1) := by decide +kernel
theorem dX4_wrong_45 : decode cX4_wrong 45 = .ok (.istore_n 3, 1) := by decide +kernel
theorem dX4_wrong_46 : decode cX4_wrong 46 = .ok (.iinc 4 1, 3) := by decide +kernel
theorem dX4_wrong_49 : decode cX4_wrong 49 = .ok (.goto (-44), 3) := by decide +kernel
theorem dX4_wrong_52 : decode cX4_wrong 52 = .ok (.iload_n 3, 1) := by decide +kernel
theorem dX4_wrong_53 : decode cX4_wrong 53 = .ok (.ireturn, 1) := by decide +kernel
set_option maxRecDepth 20000 in
theorem ggX4_wrong__X4_sky : GoodIn wsX4_wrong_ wsX4_sky := goodIn_r _ [6, 7, 8, 1, 9, 10, 27, 28, 29, 30] (by decide +kernel) (by decide +kernel)
set_option maxRecDepth 20000 in
theorem gX4_wrong__X4_sky : GoodIn wsX4_wrong_ (wsV RX4 50 RX4 yX4_sky wsX4_sky) := goodIn_app (goodIn_of _ (by decide +kernel)) ggX4_wrong__X4_sky
set_option maxRecDepth 20000 in
theorem ggX4_wrong__X4_wrong : GoodIn wsX4_wrong_ wsX4_wrong := goodIn_r _ [14, 9, 15, 16, 17, 5, 18, 1, 19, 20, 21, 22, 10, 23, 24, 25, 26, 27, 28, 29, 30] (by decide +kernel) (by decide +kernel)
set_option maxRecDepth 20000 in
theorem gX4_wrong__X4_wrong : GoodIn wsX4_wrong_ (wsV RX4 54 RX4 yX4_wrong wsX4_wrong) := goodIn_app (goodIn_of _ (by decide +kernel)) ggX4_wrong__X4_wrong
theorem dX4_wrong__0 : decode cX4_wrong_ 0 = .ok (.aload_n 0, 1) := by decide +kernel
theorem dX4_wrong__1 : decode cX4_wrong_ 1 = .ok (.invokevirtual 50, 3) := by decide +kernel
theorem dX4_wrong__4 : decode cX4_wrong_ 4 = .ok (.astore_n 1, 1) := by decide +kernel
theorem dX4_wrong__5 : decode cX4_wrong_ 5 = .ok (.iconst 0, 1) := by decide +kernel
theorem dX4_wrong__6 : decode cX4_wrong_ 6 = .ok (.istore_n 2, 1) := by decide +kernel
theorem dX4_wrong__7 : decode cX4_wrong_ 7 = .ok (.iconst 0, 1) := by decide +kernel
theorem dX4_wrong__8 : decode cX4_wrong_ 8 = .ok (.istore_n 3, 1) := by decide +kernel
theorem dX4_wrong__9 : decode cX4_wrong_ 9 = .ok (.iload_n 3, 1) := by decide +kernel
theorem dX4_wrong__10 : decode cX4_wrong_ 10 = .ok (.aload_n 0, 1) := by decide +kernel
theorem dX4_wrong__11 : decode cX4_wrong_ 11 = .ok (.getfield 19, 3) := by decide +kernel
theorem dX4_wrong__14 : decode cX4_wrong_ 14 = .ok (.arraylength, 1) := by decide +kernel
theorem dX4_wrong__15 : decode cX4_wrong_ 15 = .ok (.if_icmp .ge 18, 3) := by decide +kernel
theorem dX4_wrong__18 : decode cX4_wrong_ 18 = .ok (.iload_n 2, 1) := by decide +kernel
theorem dX4_wrong__19 : decode cX4_wrong_ 19 = .ok (.aload_n 0, 1) := by decide +kernel
theorem dX4_wrong__20 : decode cX4_wrong_ 20 = .ok (.aload_n 1, 1) := by decide +kernel
theorem dX4_wrong__21 : decode cX4_wrong_ 21 = .ok (.iload_n 3, 1) := by decide +kernel
theorem dX4_wrong__22 : decode cX4_wrong_ 22 = .ok (.invokevirtual 54, 3) := by decide +kernel
theorem dX4_wrong__25 : decode cX4_wrong_ 25 = .ok (.iadd, 1) := by decide +kernel
theorem dX4_wrong__26 : decode cX4_wrong_ 26 = .ok (.istore_n 2, 1) := by decide +kernel
theorem dX4_wrong__27 : decode cX4_wrong_ 27 = .ok (.iinc 3 1, 3) := by decide +kernel
theorem dX4_wrong__30 : decode cX4_wrong_ 30 = .ok (.goto (-21), 3) := by decide +kernel
theorem dX4_wrong__33 : decode cX4_wrong_ 33 = .ok (.iload_n 2, 1) := by decide +kernel
theorem dX4_wrong__34 : decode cX4_wrong_ 34 = .ok (.ireturn, 1) := by decide +kernel
theorem dX4_isTaken_0 : decode cX4_isTaken 0 = .ok (.aload_n 0, 1) := by decide +kernel
theorem dX4_isTaken_1 : decode cX4_isTaken 1 = .ok (.getfield 19, 3) := by decide +kernel
theorem dX4_isTaken_4 : decode cX4_isTaken 4 = .ok (.astore_n 2, 1) := by decide +kernel
theorem dX4_isTaken_5 : decode cX4_isTaken 5 = .ok (.aload_n 2, 1) := by decide +kernel
theorem dX4_isTaken_6 : decode cX4_isTaken 6 = .ok (.arraylength, 1) := by decide +kernel
theorem dX4_isTaken_7 : decode cX4_isTaken 7 = .ok (.istore_n 3, 1) := by decide +kernel
theorem dX4_isTaken_8 : decode cX4_isTaken 8 = .ok (.iconst 0, 1) := by decide +kernel
theorem dX4_isTaken_9 : decode cX4_isTaken 9 = .ok (.istore 4, 2) := by decide +kernel
theorem dX4_isTaken_11 : decode cX4_isTaken 11 = .ok (.iload 4, 2) := by decide +kernel
theorem dX4_isTaken_13 : decode cX4_isTaken 13 = .ok (.iload_n 3, 1) := by decide +kernel
theorem dX4_isTaken_14 : decode cX4_isTaken 14 = .ok (.if_icmp .ge 25, 3) := by decide +kernel
theorem dX4_isTaken_17 : decode cX4_isTaken 17 = .ok (.aload_n 2, 1) := by decide +kernel
theorem dX4_isTaken_18 : decode cX4_isTaken 18 = .ok (.iload 4, 2) := by decide +kernel
theorem dX4_isTaken_20 : decode cX4_isTaken 20 = .ok (.aaload, 1) := by decide +kernel
theorem dX4_isTaken_21 : decode cX4_isTaken 21 = .ok (.astore 5, 2) := by decide +kernel
theorem dX4_isTaken_23 : decode cX4_isTaken 23 = .ok (.aload 5, 2) := by decide +kernel
theorem dX4_isTaken_25 : decode cX4_isTaken 25 = .ok (.iconst 0, 1) := by decide +kernel
theorem dX4_isTaken_26 : decode cX4_isTaken 26 = .ok (.iaload, 1) := by decide +kernel
theorem dX4_isTaken_27 : decode cX4_isTaken 27 = .ok (.iload_n 1, 1) := by decide +kernel
theorem dX4_isTaken_28 : decode cX4_isTaken 28 = .ok (.if_icmp .ne 5, 3) := by decide +kernel
theorem dX4_isTaken_31 : decode cX4_isTaken 31 = .ok (.iconst 1, 1) := by decide +kernel
theorem dX4_isTaken_32 : decode cX4_isTaken 32 = .ok (.ireturn, 1) := by decide +kernel
theorem dX4_isTaken_33 : decode cX4_isTaken 33 = .ok (.iinc 4 1, 3) := by decide +kernel
theorem dX4_isTaken_36 : decode cX4_isTaken 36 = .ok (.goto (-25), 3) := by decide +kernel
theorem dX4_isTaken_39 : decode cX4_isTaken 39 = .ok (.iconst 0, 1) := by decide +kernel
theorem dX4_isTaken_40 : decode cX4_isTaken 40 = .ok (.ireturn, 1) := by decide +kernel
set_option maxRecDepth 20000 in
theorem ggX4_isSame_X4_sky : GoodIn wsX4_isSame wsX4_sky := goodIn_r _ [19, 14, 20, 8, 9, 21, 203, 204, 205, 206] (by decide +kernel) (by decide +kernel)
set_option maxRecDepth 20000 in
theorem gX4_isSame_X4_sky : GoodIn wsX4_isSame (wsV RX4 50 RX4 yX4_sky wsX4_sky) := goodIn_app (goodIn_of _ (by decide +kernel)) ggX4_isSame_X4_sky
set_option maxRecDepth 20000 in
theorem ggX4_isSame_X4_end_ : GoodIn wsX4_isSame wsX4_end_ := goodIn_r _ [25, 8, 5, 6, 3, 7, 26, 27, 28, 18, 29, 9, 30, 31, 32, 33, 21, 203, 204, 205, 206] (by decide +kernel) (by decide +kernel)
set_option maxRecDepth 20000 in
theorem gX4_isSame_X4_end_ : GoodIn wsX4_isSame (wsV RX4 58 RX4 yX4_end_ wsX4_end_) := goodIn_app (goodIn_of _ (by decide +kernel)) ggX4_isSame_X4_end_
set_option maxRecDepth 20000 in
theorem ggX4_isSame_X4_length : GoodIn wsX4_isSame wsX4_length := goodIn_r _ [33, 21, 203, 204, 205, 206] (by decide +kernel) (by decide +kernel)
set_option maxRecDepth 20000 in
theorem gX4_isSame_X4_length : GoodIn wsX4_isSame (wsV RX4 29 RX4 yX4_length wsX4_length) := goodIn_app (goodIn_of _ (by decide +kernel)) ggX4_isSame_X4_length
set_option maxRecDepth 20000 in
theorem ggX4_isSame_X4_isTaken : GoodIn wsX4_isSame wsX4_isTaken := goodIn_r _ [37, 8, 203, 204, 205, 206] (by decide +kernel) (by decide +kernel)
set_option maxRecDepth 20000 in
theorem gX4_isSame_X4_isTaken : GoodIn wsX4_isSame (wsV RX4 63 RX4 yX4_isTaken wsX4_isTaken) := goodIn_app (goodIn_of _ (by decide +kernel)) ggX4_isSame_X4_isTaken
set_option maxRecDepth 20000 in
theorem ggX4_isSame_X4_heard : GoodIn wsX4_isSame wsX4_heard := goodIn_r _ [41, 8, 30, 31, 32, 18, 33, 21, 42, 43, 44, 45, 203, 204, 205, 206] (by decide +kernel) (by decide +kernel)
set_option maxRecDepth 20000 in
theorem gX4_isSame_X4_heard : GoodIn wsX4_isSame (wsV RX4 47 RX4 yX4_heard wsX4_heard) := goodIn_app (goodIn_of _ (by decide +kernel)) ggX4_isSame_X4_heard
set_option maxRecDepth 20000 in
theorem ggX4_isSame_X3_word : GoodIn wsX4_isSame wsX3_word := goodIn_ca (goodIn_r _ [50, 51, 52, 53, 54, 55, 56, 57, 49, 58, 59, 60, 61, 62, 63, 64, 65, 66, 67, 68, 69, 70, 71, 72, 73, 74, 75, 76, 77, 78, 79, 80, 81, 82, 83, 84, 85, 86, 87, 88, 89, 90, 91, 92, 93, 94, 95, 96, 97, 98, 99, 100, 101, 102, 103, 104, 105, 106, 107, 108, 109, 110, 111, 112, 113, 114, 115, 116, 117, 118, 119, 120, 121, 122, 123, 124, 125, 126, 127, 128, 129, 207, 208, 209, 210, 211, 212, 213, 214, 215, 216, 217, 218, 219, 220, 221] (by decide +kernel) (by decide +kernel)) (goodIn_sub (fun _ h => List.mem_cons_of_mem _ (List.mem_append_right _ h)) (by decide +kernel))
set_option maxRecDepth 20000 in
theorem gX4_isSame_X3_word : GoodIn wsX4_isSame (wsV RX4 73 RX3 yX3_word wsX3_word) := goodIn_app (goodIn_of _ (by decide +kernel)) ggX4_isSame_X3_word
set_option maxRecDepth 20000 in
theorem ggX4_isSame_X4_wrong : GoodIn wsX4_isSame wsX4_wrong := goodIn_r _ [133, 9, 38, 39, 40, 18, 41, 8, 30, 31, 32, 33, 21, 42, 43, 44, 45, 203, 204, 205, 206] (by decide +kernel) (by decide +kernel)
set_option maxRecDepth 20000 in
theorem gX4_isSame_X4_wrong : GoodIn wsX4_isSame (wsV RX4 54 RX4 yX4_wrong wsX4_wrong) := goodIn_app (goodIn_of _ (by decide +kernel)) ggX4_isSame_X4_wrong
set_option maxRecDepth 20000 in
theorem ggX4_isSame_X4_end : GoodIn wsX4_isSame wsX4_end := goodIn_r _ [29, 9, 8, 30, 31, 32, 18, 33, 21, 203, 204, 205, 206] (by decide +kernel) (by decide +kernel)
set_option maxRecDepth 20000 in
theorem gX4_isSame_X4_end : GoodIn wsX4_isSame (wsV RX4 33 RX4 yX4_end wsX4_end) := goodIn_app (goodIn_of _ (by decide +kernel)) ggX4_isSame_X4_end
set_option maxRecDepth 20000 in
theorem ggX4_isSame_X3_about : GoodIn wsX4_isSame wsX3_about := goodIn_ca (goodIn_r _ [137, 51, 52, 138, 139, 140, 53, 54, 141, 142, 55, 56, 57, 49, 58, 59, 60, 61, 62, 63, 64, 65, 66, 67, 68, 69, 70, 71, 72, 73, 74, 75, 76, 77, 78, 79, 80, 81, 82, 83, 143, 144, 145, 93, 146, 147, 148, 91, 92, 94, 95, 96, 97, 98, 99, 100, 87, 101, 102, 103, 104, 105, 106, 107, 108, 109, 110, 111, 112, 113, 114, 115, 116, 117, 118, 119, 120, 121, 122, 123, 124, 149, 126, 127, 128, 129, 85, 86, 88, 89, 150, 151, 152, 153, 154, 155, 156, 157, 158, 159, 160, 2, 3, 4, 207, 208, 209, 210, 211, 212, 213, 214, 221, 215, 216, 217, 218, 219, 220] (by decide +kernel) (by decide +kernel)) (goodIn_sub (fun _ h => List.mem_cons_of_mem _ (List.mem_append_right _ h)) (by decide +kernel))
set_option maxRecDepth 20000 in
theorem gX4_isSame_X3_about : GoodIn wsX4_isSame (wsV RX4 79 RX3 yX3_about wsX3_about) := goodIn_app (goodIn_of _ (by decide +kernel)) ggX4_isSame_X3_about
set_option maxRecDepth 20000 in
theorem ggX4_isSame_X4_wrong_ : GoodIn wsX4_isSame wsX4_wrong_ := goodIn_r _ [164, 8, 15, 16, 17, 18, 19, 14, 20, 9, 21, 130, 131, 132, 133, 38, 39, 40, 41, 30, 31, 32, 33, 42, 43, 44, 45, 203, 204, 205, 206] (by decide +kernel) (by decide +kernel)
set_option maxRecDepth 20000 in
theorem gX4_isSame_X4_wrong_ : GoodIn wsX4_isSame (wsV RX4 82 RX4 yX4_wrong_ wsX4_wrong_) := goodIn_app (goodIn_of _ (by decide +kernel)) ggX4_isSame_X4_wrong_
set_option maxRecDepth 20000 in
theorem ggX4_isSame_X3_count : GoodIn wsX4_isSame wsX3_count := goodIn_ca (goodIn_r _ [168, 51, 52, 141, 142, 59, 54, 61, 62, 63, 64, 65, 66, 169, 170, 171, 49, 172, 60, 53, 67, 68, 69, 70, 71, 72, 73, 74, 75, 76, 77, 78, 79, 80, 81, 82, 83, 173, 174, 175, 176, 143, 144, 145, 93, 146, 147, 148, 91, 92, 94, 95, 96, 97, 98, 99, 100, 87, 101, 102, 103, 104, 105, 106, 107, 108, 109, 110, 111, 112, 113, 114, 115, 116, 117, 118, 119, 120, 121, 122, 123, 124, 149, 126, 127, 128, 129, 85, 86, 88, 89, 177, 178, 179, 180, 181, 6, 3, 7, 150, 151, 152, 153, 154, 155, 182, 183, 184, 185, 160, 2, 4, 186, 187, 188, 189, 190, 191, 192, 193, 194, 138, 212, 213, 214, 221, 215, 216, 217, 207, 208, 209, 210, 211, 218, 219, 220] (by decide +kernel) (by decide +kernel)) (goodIn_sub (fun _ h => List.mem_cons_of_mem _ (List.mem_append_right _ h)) (by decide +kernel))
set_option maxRecDepth 20000 in
theorem gX4_isSame_X3_count : GoodIn wsX4_isSame (wsV RX4 84 RX3 yX3_count wsX3_count) := goodIn_app (goodIn_of _ (by decide +kernel)) ggX4_isSame_X3_count
set_option maxRecDepth 20000 in
theorem ggX4_isSame_X3_mean : GoodIn wsX4_isSame wsX3_mean := goodIn_r _ [198, 54, 177, 178, 179, 49, 180, 59, 60, 141, 142, 181, 6, 3, 7, 61, 62, 63, 64, 65, 66, 67, 68, 69, 70, 71, 72, 73, 74, 75, 76, 77, 78, 79, 80, 81, 82, 83, 150, 151, 152, 87, 153, 154, 155, 99, 100, 101, 102, 199, 200, 201, 93, 202, 107, 108, 109, 110, 111, 112, 212, 213, 214, 221, 215, 216, 217, 207, 208, 209, 210, 211, 218, 219, 220] (by decide +kernel) (by decide +kernel)
set_option maxRecDepth 20000 in
theorem gX4_isSame_X3_mean : GoodIn wsX4_isSame (wsV RX4 87 RX3 yX3_mean wsX3_mean) := goodIn_app (goodIn_of _ (by decide +kernel)) ggX4_isSame_X3_mean
theorem dX4_isSame_0 : decode cX4_isSame 0 = .ok (.aload_n 0, 1) := by decide +kernel
theorem dX4_isSame_1 : decode cX4_isSame 1 = .ok (.invokevirtual 50, 3) := by decide +kernel
theorem dX4_isSame_4 : decode cX4_isSame 4 = .ok (.astore_n 2, 1) := by decide +kernel
theorem dX4_isSame_5 : decode cX4_isSame 5 = .ok (.iconst 0, 1) := by decide +kernel
theorem dX4_isSame_6 : decode cX4_isSame 6 = .ok (.istore_n 3, 1) := by decide +kernel
theorem dX4_isSame_7 : decode cX4_isSame 7 = .ok (.iconst 0, 1) := by decide +kernel
theorem dX4_isSame_8 : decode cX4_isSame 8 = .ok (.istore 4, 2) := by decide +kernel
theorem dX4_isSame_10 : decode cX4_isSame 10 = .ok (.iconst 0, 1) := by decide +kernel
theorem dX4_isSame_11 : decode cX4_isSame 11 = .ok (.istore 5, 2) := by decide +kernel
theorem dX4_isSame_13 : decode cX4_isSame 13 = .ok (.iconst 0, 1) := by decide +kernel
theorem dX4_isSame_14 : decode cX4_isSame 14 = .ok (.istore 6, 2) := by decide +kernel
theorem dX4_isSame_16 : decode cX4_isSame 16 = .ok (.iconst 0, 1) := by decide +kernel
theorem dX4_isSame_17 : decode cX4_isSame 17 = .ok (.istore 7, 2) := by decide +kernel
theorem dX4_isSame_19 : decode cX4_isSame 19 = .ok (.iload 7, 2) := by decide +kernel
theorem dX4_isSame_21 : decode cX4_isSame 21 = .ok (.aload_n 0, 1) := by decide +kernel
theorem dX4_isSame_22 : decode cX4_isSame 22 = .ok (.invokevirtual 58, 3) := by decide +kernel
theorem dX4_isSame_25 : decode cX4_isSame 25 = .ok (.if_icmp .ge 32, 3) := by decide +kernel
theorem dX4_isSame_28 : decode cX4_isSame 28 = .ok (.iload 4, 2) := by decide +kernel
theorem dX4_isSame_30 : decode cX4_isSame 30 = .ok (.aload_n 2, 1) := by decide +kernel
theorem dX4_isSame_31 : decode cX4_isSame 31 = .ok (.iload 7, 2) := by decide +kernel
theorem dX4_isSame_33 : decode cX4_isSame 33 = .ok (.iaload, 1) := by decide +kernel
theorem dX4_isSame_34 : decode cX4_isSame 34 = .ok (.invokestatic 60, 3) := by decide +kernel
theorem dX4_isSame_37 : decode cX4_isSame 37 = .ok (.invokestatic 37, 3) := by decide +kernel
theorem dX4_isSame_40 : decode cX4_isSame 40 = .ok (.istore 4, 2) := by decide +kernel
theorem dX4_isSame_42 : decode cX4_isSame 42 = .ok (.iload 5, 2) := by decide +kernel
theorem dX4_isSame_44 : decode cX4_isSame 44 = .ok (.aload_n 2, 1) := by decide +kernel
theorem dX4_isSame_45 : decode cX4_isSame 45 = .ok (.iload 7, 2) := by decide +kernel
theorem dX4_isSame_47 : decode cX4_isSame 47 = .ok (.iaload, 1) := by decide +kernel
theorem dX4_isSame_48 : decode cX4_isSame 48 = .ok (.iadd, 1) := by decide +kernel
theorem dX4_isSame_49 : decode cX4_isSame 49 = .ok (.istore 5, 2) := by decide +kernel
theorem dX4_isSame_51 : decode cX4_isSame 51 = .ok (.iinc 7 1, 3) := by decide +kernel
theorem dX4_isSame_54 : decode cX4_isSame 54 = .ok (.goto (-35), 3) := by decide +kernel
theorem dX4_isSame_57 : decode cX4_isSame 57 = .ok (.iconst 0, 1) := by decide +kernel
theorem dX4_isSame_58 : decode cX4_isSame 58 = .ok (.istore 7, 2) := by decide +kernel
theorem dX4_isSame_60 : decode cX4_isSame 60 = .ok (.iload 7, 2) := by decide +kernel
theorem dX4_isSame_62 : decode cX4_isSame 62 = .ok (.aload_n 0, 1) := by decide +kernel
theorem dX4_isSame_63 : decode cX4_isSame 63 = .ok (.invokevirtual 29, 3) := by decide +kernel
theorem dX4_isSame_66 : decode cX4_isSame 66 = .ok (.if_icmp .ge 28, 3) := by decide +kernel
theorem dX4_isSame_69 : decode cX4_isSame 69 = .ok (.iload 6, 2) := by decide +kernel
theorem dX4_isSame_71 : decode cX4_isSame 71 = .ok (.aload_n 0, 1) := by decide +kernel
theorem dX4_isSame_72 : decode cX4_isSame 72 = .ok (.iload 7, 2) := by decide +kernel
theorem dX4_isSame_74 : decode cX4_isSame 74 = .ok (.invokevirtual 63, 3) := by decide +kernel
theorem dX4_isSame_77 : decode cX4_isSame 77 = .ok (.ifCond .eq 7, 3) := by decide +kernel
theorem dX4_isSame_80 : decode cX4_isSame 80 = .ok (.iconst 0, 1) := by decide +kernel
theorem dX4_isSame_81 : decode cX4_isSame 81 = .ok (.goto 4, 3) := by decide +kernel
theorem dX4_isSame_84 : decode cX4_isSame 84 = .ok (.iconst 1, 1) := by decide +kernel
theorem dX4_isSame_85 : decode cX4_isSame 85 = .ok (.iadd, 1) := by decide +kernel
theorem dX4_isSame_86 : decode cX4_isSame 86 = .ok (.istore 6, 2) := by decide +kernel
theorem dX4_isSame_88 : decode cX4_isSame 88 = .ok (.iinc 7 1, 3) := by decide +kernel
theorem dX4_isSame_91 : decode cX4_isSame 91 = .ok (.goto (-31), 3) := by decide +kernel
theorem dX4_isSame_94 : decode cX4_isSame 94 = .ok (.iconst 0, 1) := by decide +kernel
theorem dX4_isSame_95 : decode cX4_isSame 95 = .ok (.istore 7, 2) := by decide +kernel
theorem dX4_isSame_97 : decode cX4_isSame 97 = .ok (.iload 7, 2) := by decide +kernel
theorem dX4_isSame_99 : decode cX4_isSame 99 = .ok (.aload_n 0, 1) := by decide +kernel
theorem dX4_isSame_100 : decode cX4_isSame 100 = .ok (.getfield 19, 3) := by decide +kernel
theorem dX4_isSame_103 : decode cX4_isSame 103 = .ok (.arraylength, 1) := by decide +kernel
theorem dX4_isSame_104 : decode cX4_isSame 104 = .ok (.if_icmp .ge 267, 3) := by decide +kernel
theorem dX4_isSame_107 : decode cX4_isSame 107 = .ok (.aload_n 0, 1) := by decide +kernel
theorem dX4_isSame_108 : decode cX4_isSame 108 = .ok (.getfield 22, 3) := by decide +kernel
theorem dX4_isSame_111 : decode cX4_isSame 111 = .ok (.iload 7, 2) := by decide +kernel
theorem dX4_isSame_113 : decode cX4_isSame 113 = .ok (.aaload, 1) := by decide +kernel
theorem dX4_isSame_114 : decode cX4_isSame 114 = .ok (.arraylength, 1) := by decide +kernel
theorem dX4_isSame_115 : decode cX4_isSame 115 = .ok (.ifCond .ne 7, 3) := by decide +kernel
theorem dX4_isSame_118 : decode cX4_isSame 118 = .ok (.iconst 0, 1) := by decide +kernel
theorem dX4_isSame_119 : decode cX4_isSame 119 = .ok (.goto 5, 3) := by decide +kernel
theorem dX4_isSame_122 : decode cX4_isSame 122 = .ok (.ldc 69, 2) := by decide +kernel
theorem dX4_isSame_124 : decode cX4_isSame 124 = .ok (.istore 8, 2) := by decide +kernel
theorem dX4_isSame_126 : decode cX4_isSame 126 = .ok (.iconst 0, 1) := by decide +kernel
theorem dX4_isSame_127 : decode cX4_isSame 127 = .ok (.istore 9, 2) := by decide +kernel
theorem dX4_isSame_129 : decode cX4_isSame 129 = .ok (.iload 9, 2) := by decide +kernel
theorem dX4_isSame_131 : decode cX4_isSame 131 = .ok (.aload_n 0, 1) := by decide +kernel
theorem dX4_isSame_132 : decode cX4_isSame 132 = .ok (.getfield 22, 3) := by decide +kernel
theorem dX4_isSame_135 : decode cX4_isSame 135 = .ok (.iload 7, 2) := by decide +kernel
theorem dX4_isSame_137 : decode cX4_isSame 137 = .ok (.aaload, 1) := by decide +kernel
theorem dX4_isSame_138 : decode cX4_isSame 138 = .ok (.arraylength, 1) := by decide +kernel
theorem dX4_isSame_139 : decode cX4_isSame 139 = .ok (.if_icmp .ge 103, 3) := by decide +kernel
theorem dX4_isSame_142 : decode cX4_isSame 142 = .ok (.aload_n 0, 1) := by decide +kernel
theorem dX4_isSame_143 : decode cX4_isSame 143 = .ok (.aload_n 2, 1) := by decide +kernel
theorem dX4_isSame_144 : decode cX4_isSame 144 = .ok (.iload 7, 2) := by decide +kernel
theorem dX4_isSame_146 : decode cX4_isSame 146 = .ok (.iload 9, 2) := by decide +kernel
theorem dX4_isSame_148 : decode cX4_isSame 148 = .ok (.invokevirtual 47, 3) := by decide +kernel
theorem dX4_isSame_151 : decode cX4_isSame 151 = .ok (.istore 10, 2) := by decide +kernel
theorem dX4_isSame_153 : decode cX4_isSame 153 = .ok (.iload 8, 2) := by decide +kernel
theorem dX4_isSame_155 : decode cX4_isSame 155 = .ok (.iload 10, 2) := by decide +kernel
theorem dX4_isSame_157 : decode cX4_isSame 157 = .ok (.invokestatic 60, 3) := by decide +kernel
theorem dX4_isSame_160 : decode cX4_isSame 160 = .ok (.invokestatic 70, 3) := by decide +kernel
theorem dX4_isSame_163 : decode cX4_isSame 163 = .ok (.istore 8, 2) := by decide +kernel
theorem dX4_isSame_165 : decode cX4_isSame 165 = .ok (.aload_n 1, 1) := by decide +kernel
theorem dX4_isSame_166 : decode cX4_isSame 166 = .ok (.iload 7, 2) := by decide +kernel
theorem dX4_isSame_168 : decode cX4_isSame 168 = .ok (.iload 9, 2) := by decide +kernel
theorem dX4_isSame_170 : decode cX4_isSame 170 = .ok (.iconst 0, 1) := by decide +kernel
theorem dX4_isSame_171 : decode cX4_isSame 171 = .ok (.invokevirtual 73, 3) := by decide +kernel
theorem dX4_isSame_174 : decode cX4_isSame 174 = .ok (.aload_n 0, 1) := by decide +kernel
theorem dX4_isSame_175 : decode cX4_isSame 175 = .ok (.getfield 22, 3) := by decide +kernel
theorem dX4_isSame_178 : decode cX4_isSame 178 = .ok (.iload 7, 2) := by decide +kernel
theorem dX4_isSame_180 : decode cX4_isSame 180 = .ok (.aaload, 1) := by decide +kernel
theorem dX4_isSame_181 : decode cX4_isSame 181 = .ok (.iload 9, 2) := by decide +kernel
theorem dX4_isSame_183 : decode cX4_isSame 183 = .ok (.iaload, 1) := by decide +kernel
theorem dX4_isSame_184 : decode cX4_isSame 184 = .ok (.if_icmp .ne 50, 3) := by decide +kernel
theorem dX4_isSame_187 : decode cX4_isSame 187 = .ok (.aload_n 1, 1) := by decide +kernel
theorem dX4_isSame_188 : decode cX4_isSame 188 = .ok (.iload 7, 2) := by decide +kernel
theorem dX4_isSame_190 : decode cX4_isSame 190 = .ok (.iload 9, 2) := by decide +kernel
theorem dX4_isSame_192 : decode cX4_isSame 192 = .ok (.iconst 1, 1) := by decide +kernel
theorem dX4_isSame_193 : decode cX4_isSame 193 = .ok (.invokevirtual 73, 3) := by decide +kernel
theorem dX4_isSame_196 : decode cX4_isSame 196 = .ok (.iload 10, 2) := by decide +kernel
theorem dX4_isSame_198 : decode cX4_isSame 198 = .ok (.if_icmp .ne 36, 3) := by decide +kernel
theorem dX4_isSame_201 : decode cX4_isSame 201 = .ok (.aload_n 1, 1) := by decide +kernel
theorem dX4_isSame_202 : decode cX4_isSame 202 = .ok (.iload 7, 2) := by decide +kernel
theorem dX4_isSame_204 : decode cX4_isSame 204 = .ok (.iload 9, 2) := by decide +kernel
theorem dX4_isSame_206 : decode cX4_isSame 206 = .ok (.iconst 2, 1) := by decide +kernel
theorem dX4_isSame_207 : decode cX4_isSame 207 = .ok (.invokevirtual 73, 3) := by decide +kernel
theorem dX4_isSame_210 : decode cX4_isSame 210 = .ok (.iload 10, 2) := by decide +kernel
theorem dX4_isSame_212 : decode cX4_isSame 212 = .ok (.aload_n 0, 1) := by decide +kernel
theorem dX4_isSame_213 : decode cX4_isSame 213 = .ok (.getfield 22, 3) := by decide +kernel
