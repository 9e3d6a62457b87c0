theorem dX4_hill_19 : decode cX4_hill 19 = .ok (.iload_n 2, 1) := by decide +kernel
theorem dX4_hill_20 : decode cX4_hill 20 = .ok (.invokestatic 98, 3) := by decide +kernel
theorem dX4_hill_23 : decode cX4_hill 23 = .ok (.ifCond .ne 9, 3) := by decide +kernel
theorem dX4_hill_26 : decode cX4_hill 26 = .ok (.aload_n 0, 1) := by decide +kernel
theorem dX4_hill_27 : decode cX4_hill 27 = .ok (.iconst 2, 1) := by decide +kernel
theorem dX4_hill_28 : decode cX4_hill 28 = .ok (.invokevirtual 91, 3) := by decide +kernel
theorem dX4_hill_31 : decode cX4_hill 31 = .ok (.ireturn, 1) := by decide +kernel
theorem dX4_hill_32 : decode cX4_hill 32 = .ok (.aload_n 0, 1) := by decide +kernel
theorem dX4_hill_33 : decode cX4_hill 33 = .ok (.getfield 39, 3) := by decide +kernel
theorem dX4_hill_36 : decode cX4_hill 36 = .ok (.bipush 8, 2) := by decide +kernel
theorem dX4_hill_38 : decode cX4_hill 38 = .ok (.if_icmp .ne 9, 3) := by decide +kernel
theorem dX4_hill_41 : decode cX4_hill 41 = .ok (.aload_n 0, 1) := by decide +kernel
theorem dX4_hill_42 : decode cX4_hill 42 = .ok (.iconst 3, 1) := by decide +kernel
theorem dX4_hill_43 : decode cX4_hill 43 = .ok (.invokevirtual 91, 3) := by decide +kernel
theorem dX4_hill_46 : decode cX4_hill 46 = .ok (.ireturn, 1) := by decide +kernel
theorem dX4_hill_47 : decode cX4_hill 47 = .ok (.aload_n 0, 1) := by decide +kernel
theorem dX4_hill_48 : decode cX4_hill 48 = .ok (.getfield 13, 3) := by decide +kernel
theorem dX4_hill_51 : decode cX4_hill 51 = .ok (.aload_n 0, 1) := by decide +kernel
theorem dX4_hill_52 : decode cX4_hill 52 = .ok (.getfield 39, 3) := by decide +kernel
theorem dX4_hill_55 : decode cX4_hill 55 = .ok (.iload_n 1, 1) := by decide +kernel
theorem dX4_hill_56 : decode cX4_hill 56 = .ok (.iastore, 1) := by decide +kernel
theorem dX4_hill_57 : decode cX4_hill 57 = .ok (.aload_n 0, 1) := by decide +kernel
theorem dX4_hill_58 : decode cX4_hill 58 = .ok (.getfield 17, 3) := by decide +kernel
theorem dX4_hill_61 : decode cX4_hill 61 = .ok (.aload_n 0, 1) := by decide +kernel
theorem dX4_hill_62 : decode cX4_hill 62 = .ok (.getfield 39, 3) := by decide +kernel
theorem dX4_hill_65 : decode cX4_hill 65 = .ok (.iload_n 2, 1) := by decide +kernel
theorem dX4_hill_66 : decode cX4_hill 66 = .ok (.iastore, 1) := by decide +kernel
theorem dX4_hill_67 : decode cX4_hill 67 = .ok (.aload_n 0, 1) := by decide +kernel
theorem dX4_hill_68 : decode cX4_hill 68 = .ok (.getfield 20, 3) := by decide +kernel
theorem dX4_hill_71 : decode cX4_hill 71 = .ok (.aload_n 0, 1) := by decide +kernel
theorem dX4_hill_72 : decode cX4_hill 72 = .ok (.getfield 39, 3) := by decide +kernel
theorem dX4_hill_75 : decode cX4_hill 75 = .ok (.iconst 0, 1) := by decide +kernel
theorem dX4_hill_76 : decode cX4_hill 76 = .ok (.iastore, 1) := by decide +kernel
theorem dX4_hill_77 : decode cX4_hill 77 = .ok (.aload_n 0, 1) := by decide +kernel
theorem dX4_hill_78 : decode cX4_hill 78 = .ok (.getfield 23, 3) := by decide +kernel
theorem dX4_hill_81 : decode cX4_hill 81 = .ok (.aload_n 0, 1) := by decide +kernel
theorem dX4_hill_82 : decode cX4_hill 82 = .ok (.getfield 39, 3) := by decide +kernel
theorem dX4_hill_85 : decode cX4_hill 85 = .ok (.iconst 0, 1) := by decide +kernel
theorem dX4_hill_86 : decode cX4_hill 86 = .ok (.iastore, 1) := by decide +kernel
theorem dX4_hill_87 : decode cX4_hill 87 = .ok (.aload_n 0, 1) := by decide +kernel
theorem dX4_hill_88 : decode cX4_hill 88 = .ok (.dup, 1) := by decide +kernel
theorem dX4_hill_89 : decode cX4_hill 89 = .ok (.getfield 39, 3) := by decide +kernel
theorem dX4_hill_92 : decode cX4_hill 92 = .ok (.iconst 1, 1) := by decide +kernel
theorem dX4_hill_93 : decode cX4_hill 93 = .ok (.iadd, 1) := by decide +kernel
theorem dX4_hill_94 : decode cX4_hill 94 = .ok (.putfield 39, 3) := by decide +kernel
theorem dX4_hill_97 : decode cX4_hill 97 = .ok (.aload_n 0, 1) := by decide +kernel
theorem dX4_hill_98 : decode cX4_hill 98 = .ok (.getfield 39, 3) := by decide +kernel
theorem dX4_hill_101 : decode cX4_hill 101 = .ok (.iconst 1, 1) := by decide +kernel
theorem dX4_hill_102 : decode cX4_hill 102 = .ok (.isub, 1) := by decide +kernel
theorem dX4_hill_103 : decode cX4_hill 103 = .ok (.ireturn, 1) := by decide +kernel
set_option maxRecDepth 20000 in
theorem ggX4_say_X4_isHill : GoodIn wsX4_say wsX4_isHill := goodIn_r _ [8, 9, 10, 11, 7, 12, 17, 18, 19, 20, 21, 22, 23, 24, 25] (by decide +kernel) (by decide +kernel)
set_option maxRecDepth 20000 in
theorem gX4_say_X4_isHill : GoodIn wsX4_say (wsV RX4 101 RX4 yX4_isHill wsX4_isHill) := goodIn_app (goodIn_of _ (by decide +kernel)) ggX4_say_X4_isHill
set_option maxRecDepth 20000 in
theorem ggX4_say_X4_no : GoodIn wsX4_say wsX4_no := goodIn_r _ [16, 1, 17, 18, 19, 20, 21, 22, 23, 24, 25] (by decide +kernel) (by decide +kernel)
set_option maxRecDepth 20000 in
theorem gX4_say_X4_no : GoodIn wsX4_say (wsV RX4 91 RX4 yX4_no wsX4_no) := goodIn_app (goodIn_of _ (by decide +kernel)) ggX4_say_X4_no
theorem dX4_say_0 : decode cX4_say 0 = .ok (.aload_n 0, 1) := by decide +kernel
theorem dX4_say_1 : decode cX4_say 1 = .ok (.iconst 0, 1) := by decide +kernel
theorem dX4_say_2 : decode cX4_say 2 = .ok (.putfield 32, 3) := by decide +kernel
theorem dX4_say_5 : decode cX4_say 5 = .ok (.aload_n 0, 1) := by decide +kernel
theorem dX4_say_6 : decode cX4_say 6 = .ok (.iload_n 1, 1) := by decide +kernel
theorem dX4_say_7 : decode cX4_say 7 = .ok (.invokevirtual 101, 3) := by decide +kernel
theorem dX4_say_10 : decode cX4_say 10 = .ok (.ifCond .ne 9, 3) := by decide +kernel
theorem dX4_say_13 : decode cX4_say 13 = .ok (.aload_n 0, 1) := by decide +kernel
theorem dX4_say_14 : decode cX4_say 14 = .ok (.iconst 1, 1) := by decide +kernel
theorem dX4_say_15 : decode cX4_say 15 = .ok (.invokevirtual 91, 3) := by decide +kernel
theorem dX4_say_18 : decode cX4_say 18 = .ok (.ireturn, 1) := by decide +kernel
theorem dX4_say_19 : decode cX4_say 19 = .ok (.aload_n 0, 1) := by decide +kernel
theorem dX4_say_20 : decode cX4_say 20 = .ok (.getfield 23, 3) := by decide +kernel
theorem dX4_say_23 : decode cX4_say 23 = .ok (.iload_n 1, 1) := by decide +kernel
theorem dX4_say_24 : decode cX4_say 24 = .ok (.iaload, 1) := by decide +kernel
theorem dX4_say_25 : decode cX4_say 25 = .ok (.bipush 12, 2) := by decide +kernel
theorem dX4_say_27 : decode cX4_say 27 = .ok (.if_icmp .ne 9, 3) := by decide +kernel
theorem dX4_say_30 : decode cX4_say 30 = .ok (.aload_n 0, 1) := by decide +kernel
theorem dX4_say_31 : decode cX4_say 31 = .ok (.iconst 2, 1) := by decide +kernel
theorem dX4_say_32 : decode cX4_say 32 = .ok (.invokevirtual 91, 3) := by decide +kernel
theorem dX4_say_35 : decode cX4_say 35 = .ok (.ireturn, 1) := by decide +kernel
theorem dX4_say_36 : decode cX4_say 36 = .ok (.aload_n 0, 1) := by decide +kernel
theorem dX4_say_37 : decode cX4_say 37 = .ok (.getfield 26, 3) := by decide +kernel
theorem dX4_say_40 : decode cX4_say 40 = .ok (.bipush 12, 2) := by decide +kernel
theorem dX4_say_42 : decode cX4_say 42 = .ok (.iload_n 1, 1) := by decide +kernel
theorem dX4_say_43 : decode cX4_say 43 = .ok (.imul, 1) := by decide +kernel
theorem dX4_say_44 : decode cX4_say 44 = .ok (.aload_n 0, 1) := by decide +kernel
theorem dX4_say_45 : decode cX4_say 45 = .ok (.getfield 23, 3) := by decide +kernel
theorem dX4_say_48 : decode cX4_say 48 = .ok (.iload_n 1, 1) := by decide +kernel
theorem dX4_say_49 : decode cX4_say 49 = .ok (.iaload, 1) := by decide +kernel
theorem dX4_say_50 : decode cX4_say 50 = .ok (.iadd, 1) := by decide +kernel
theorem dX4_say_51 : decode cX4_say 51 = .ok (.iload_n 2, 1) := by decide +kernel
theorem dX4_say_52 : decode cX4_say 52 = .ok (.ifCond .eq 7, 3) := by decide +kernel
theorem dX4_say_55 : decode cX4_say 55 = .ok (.iconst 1, 1) := by decide +kernel
theorem dX4_say_56 : decode cX4_say 56 = .ok (.goto 4, 3) := by decide +kernel
theorem dX4_say_59 : decode cX4_say 59 = .ok (.iconst (-1), 1) := by decide +kernel
theorem dX4_say_60 : decode cX4_say 60 = .ok (.iastore, 1) := by decide +kernel
theorem dX4_say_61 : decode cX4_say 61 = .ok (.aload_n 0, 1) := by decide +kernel
theorem dX4_say_62 : decode cX4_say 62 = .ok (.getfield 23, 3) := by decide +kernel
theorem dX4_say_65 : decode cX4_say 65 = .ok (.iload_n 1, 1) := by decide +kernel
theorem dX4_say_66 : decode cX4_say 66 = .ok (.dup2, 1) := by decide +kernel
theorem dX4_say_67 : decode cX4_say 67 = .ok (.iaload, 1) := by decide +kernel
theorem dX4_say_68 : decode cX4_say 68 = .ok (.iconst 1, 1) := by decide +kernel
theorem dX4_say_69 : decode cX4_say 69 = .ok (.iadd, 1) := by decide +kernel
theorem dX4_say_70 : decode cX4_say 70 = .ok (.iastore, 1) := by decide +kernel
theorem dX4_say_71 : decode cX4_say 71 = .ok (.aload_n 0, 1) := by decide +kernel
theorem dX4_say_72 : decode cX4_say 72 = .ok (.getfield 23, 3) := by decide +kernel
theorem dX4_say_75 : decode cX4_say 75 = .ok (.iload_n 1, 1) := by decide +kernel
theorem dX4_say_76 : decode cX4_say 76 = .ok (.iaload, 1) := by decide +kernel
theorem dX4_say_77 : decode cX4_say 77 = .ok (.ireturn, 1) := by decide +kernel
set_option maxRecDepth 20000 in
theorem ggX4_hush_X4_isHill : GoodIn wsX4_hush wsX4_isHill := goodIn_r _ [7, 8, 9, 10, 6, 11, 16, 17, 18, 19, 20, 21, 22, 23, 24] (by decide +kernel) (by decide +kernel)
set_option maxRecDepth 20000 in
theorem gX4_hush_X4_isHill : GoodIn wsX4_hush (wsV RX4 101 RX4 yX4_isHill wsX4_isHill) := goodIn_app (goodIn_of _ (by decide +kernel)) ggX4_hush_X4_isHill
set_option maxRecDepth 20000 in
theorem ggX4_hush_X4_no : GoodIn wsX4_hush wsX4_no := goodIn_r _ [15, 1, 16, 17, 18, 19, 20, 21, 22, 23, 24] (by decide +kernel) (by decide +kernel)
set_option maxRecDepth 20000 in
theorem gX4_hush_X4_no : GoodIn wsX4_hush (wsV RX4 91 RX4 yX4_no wsX4_no) := goodIn_app (goodIn_of _ (by decide +kernel)) ggX4_hush_X4_no
theorem dX4_hush_0 : decode cX4_hush 0 = .ok (.aload_n 0, 1) := by decide +kernel
theorem dX4_hush_1 : decode cX4_hush 1 = .ok (.iconst 0, 1) := by decide +kernel
theorem dX4_hush_2 : decode cX4_hush 2 = .ok (.putfield 32, 3) := by decide +kernel
theorem dX4_hush_5 : decode cX4_hush 5 = .ok (.aload_n 0, 1) := by decide +kernel
theorem dX4_hush_6 : decode cX4_hush 6 = .ok (.iload_n 1, 1) := by decide +kernel
theorem dX4_hush_7 : decode cX4_hush 7 = .ok (.invokevirtual 101, 3) := by decide +kernel
theorem dX4_hush_10 : decode cX4_hush 10 = .ok (.ifCond .ne 9, 3) := by decide +kernel
theorem dX4_hush_13 : decode cX4_hush 13 = .ok (.aload_n 0, 1) := by decide +kernel
theorem dX4_hush_14 : decode cX4_hush 14 = .ok (.iconst 1, 1) := by decide +kernel
theorem dX4_hush_15 : decode cX4_hush 15 = .ok (.invokevirtual 91, 3) := by decide +kernel
theorem dX4_hush_18 : decode cX4_hush 18 = .ok (.ireturn, 1) := by decide +kernel
theorem dX4_hush_19 : decode cX4_hush 19 = .ok (.aload_n 0, 1) := by decide +kernel
theorem dX4_hush_20 : decode cX4_hush 20 = .ok (.getfield 23, 3) := by decide +kernel
theorem dX4_hush_23 : decode cX4_hush 23 = .ok (.iload_n 1, 1) := by decide +kernel
theorem dX4_hush_24 : decode cX4_hush 24 = .ok (.iaload, 1) := by decide +kernel
theorem dX4_hush_25 : decode cX4_hush 25 = .ok (.istore_n 2, 1) := by decide +kernel
theorem dX4_hush_26 : decode cX4_hush 26 = .ok (.aload_n 0, 1) := by decide +kernel
theorem dX4_hush_27 : decode cX4_hush 27 = .ok (.getfield 23, 3) := by decide +kernel
theorem dX4_hush_30 : decode cX4_hush 30 = .ok (.iload_n 1, 1) := by decide +kernel
theorem dX4_hush_31 : decode cX4_hush 31 = .ok (.iconst 0, 1) := by decide +kernel
theorem dX4_hush_32 : decode cX4_hush 32 = .ok (.iastore, 1) := by decide +kernel
theorem dX4_hush_33 : decode cX4_hush 33 = .ok (.iload_n 2, 1) := by decide +kernel
theorem dX4_hush_34 : decode cX4_hush 34 = .ok (.ireturn, 1) := by decide +kernel
set_option maxRecDepth 20000 in
theorem ggX4_setDelay_X4_isHill : GoodIn wsX4_setDelay wsX4_isHill := goodIn_r _ [7, 8, 9, 10, 6, 11, 21, 22, 23, 24, 25, 26, 27, 28, 29] (by decide +kernel) (by decide +kernel)
set_option maxRecDepth 20000 in
theorem gX4_setDelay_X4_isHill : GoodIn wsX4_setDelay (wsV RX4 101 RX4 yX4_isHill wsX4_isHill) := goodIn_app (goodIn_of _ (by decide +kernel)) ggX4_setDelay_X4_isHill
set_option maxRecDepth 20000 in
theorem ggX4_setDelay_X4_no : GoodIn wsX4_setDelay wsX4_no := goodIn_r _ [15, 1, 21, 22, 23, 24, 25, 26, 27, 28, 29] (by decide +kernel) (by decide +kernel)
set_option maxRecDepth 20000 in
theorem gX4_setDelay_X4_no : GoodIn wsX4_setDelay (wsV RX4 91 RX4 yX4_no wsX4_no) := goodIn_app (goodIn_of _ (by decide +kernel)) ggX4_setDelay_X4_no
set_option maxRecDepth 20000 in
theorem ggX4_setDelay_X4_isCode : GoodIn wsX4_setDelay wsX4_isCode := goodIn_r _ [19, 20, 9, 10, 6, 11, 21, 22, 23, 24, 25, 26, 27, 28, 29] (by decide +kernel) (by decide +kernel)
set_option maxRecDepth 20000 in
theorem gX4_setDelay_X4_isCode : GoodIn wsX4_setDelay (wsV RX4 94 RX4 yX4_isCode wsX4_isCode) := goodIn_app (goodIn_of _ (by decide +kernel)) ggX4_setDelay_X4_isCode
theorem dX4_setDelay_0 : decode cX4_setDelay 0 = .ok (.aload_n 0, 1) := by decide +kernel
theorem dX4_setDelay_1 : decode cX4_setDelay 1 = .ok (.iconst 0, 1) := by decide +kernel
theorem dX4_setDelay_2 : decode cX4_setDelay 2 = .ok (.putfield 32, 3) := by decide +kernel
theorem dX4_setDelay_5 : decode cX4_setDelay 5 = .ok (.aload_n 0, 1) := by decide +kernel
theorem dX4_setDelay_6 : decode cX4_setDelay 6 = .ok (.iload_n 1, 1) := by decide +kernel
theorem dX4_setDelay_7 : decode cX4_setDelay 7 = .ok (.invokevirtual 101, 3) := by decide +kernel
theorem dX4_setDelay_10 : decode cX4_setDelay 10 = .ok (.ifCond .ne 9, 3) := by decide +kernel
theorem dX4_setDelay_13 : decode cX4_setDelay 13 = .ok (.aload_n 0, 1) := by decide +kernel
theorem dX4_setDelay_14 : decode cX4_setDelay 14 = .ok (.iconst 1, 1) := by decide +kernel
theorem dX4_setDelay_15 : decode cX4_setDelay 15 = .ok (.invokevirtual 91, 3) := by decide +kernel
theorem dX4_setDelay_18 : decode cX4_setDelay 18 = .ok (.ireturn, 1) := by decide +kernel
theorem dX4_setDelay_19 : decode cX4_setDelay 19 = .ok (.aload_n 0, 1) := by decide +kernel
theorem dX4_setDelay_20 : decode cX4_setDelay 20 = .ok (.iload_n 2, 1) := by decide +kernel
theorem dX4_setDelay_21 : decode cX4_setDelay 21 = .ok (.invokevirtual 94, 3) := by decide +kernel
theorem dX4_setDelay_24 : decode cX4_setDelay 24 = .ok (.ifCond .ne 9, 3) := by decide +kernel
theorem dX4_setDelay_27 : decode cX4_setDelay 27 = .ok (.aload_n 0, 1) := by decide +kernel
theorem dX4_setDelay_28 : decode cX4_setDelay 28 = .ok (.iconst 2, 1) := by decide +kernel
theorem dX4_setDelay_29 : decode cX4_setDelay 29 = .ok (.invokevirtual 91, 3) := by decide +kernel
theorem dX4_setDelay_32 : decode cX4_setDelay 32 = .ok (.ireturn, 1) := by decide +kernel
theorem dX4_setDelay_33 : decode cX4_setDelay 33 = .ok (.aload_n 0, 1) := by decide +kernel
theorem dX4_setDelay_34 : decode cX4_setDelay 34 = .ok (.getfield 20, 3) := by decide +kernel
theorem dX4_setDelay_37 : decode cX4_setDelay 37 = .ok (.iload_n 1, 1) := by decide +kernel
theorem dX4_setDelay_38 : decode cX4_setDelay 38 = .ok (.iaload, 1) := by decide +kernel
theorem dX4_setDelay_39 : decode cX4_setDelay 39 = .ok (.istore_n 3, 1) := by decide +kernel
theorem dX4_setDelay_40 : decode cX4_setDelay 40 = .ok (.aload_n 0, 1) := by decide +kernel
theorem dX4_setDelay_41 : decode cX4_setDelay 41 = .ok (.getfield 20, 3) := by decide +kernel
theorem dX4_setDelay_44 : decode cX4_setDelay 44 = .ok (.iload_n 1, 1) := by decide +kernel
theorem dX4_setDelay_45 : decode cX4_setDelay 45 = .ok (.iload_n 2, 1) := by decide +kernel
theorem dX4_setDelay_46 : decode cX4_setDelay 46 = .ok (.iastore, 1) := by decide +kernel
theorem dX4_setDelay_47 : decode cX4_setDelay 47 = .ok (.iload_n 3, 1) := by decide +kernel
theorem dX4_setDelay_48 : decode cX4_setDelay 48 = .ok (.ireturn, 1) := by decide +kernel
set_option maxRecDepth 20000 in
theorem ggX4_setStrength_X4_isHill : GoodIn wsX4_setStrength wsX4_isHill := goodIn_r _ [7, 8, 9, 10, 6, 11, 19, 20, 21, 22, 23, 24, 25, 26, 27] (by decide +kernel) (by decide +kernel)
set_option maxRecDepth 20000 in
theorem gX4_setStrength_X4_isHill : GoodIn wsX4_setStrength (wsV RX4 101 RX4 yX4_isHill wsX4_isHill) := goodIn_app (goodIn_of _ (by decide +kernel)) ggX4_setStrength_X4_isHill
set_option maxRecDepth 20000 in
theorem ggX4_setStrength_X4_no : GoodIn wsX4_setStrength wsX4_no := goodIn_r _ [15, 1, 19, 20, 21, 22, 23, 24, 25, 26, 27] (by decide +kernel) (by decide +kernel)
set_option maxRecDepth 20000 in
theorem gX4_setStrength_X4_no : GoodIn wsX4_setStrength (wsV RX4 91 RX4 yX4_no wsX4_no) := goodIn_app (goodIn_of _ (by decide +kernel)) ggX4_setStrength_X4_no
set_option maxRecDepth 20000 in
theorem ggX4_setStrength_X4_isStrength : GoodIn wsX4_setStrength wsX4_isStrength := goodIn_r _ [18, 9, 10, 6, 11] (by decide +kernel) (by decide +kernel)
set_option maxRecDepth 20000 in
theorem gX4_setStrength_X4_isStrength : GoodIn wsX4_setStrength (va_wsS RX4 98 yX4_isStrength wsX4_isStrength) := goodIn_app (goodIn_of _ (by decide +kernel)) ggX4_setStrength_X4_isStrength
theorem dX4_setStrength_0 : decode cX4_setStrength 0 = .ok (.aload_n 0, 1) := by decide +kernel
theorem dX4_setStrength_1 : decode cX4_setStrength 1 = .ok (.iconst 0, 1) := by decide +kernel
theorem dX4_setStrength_2 : decode cX4_setStrength 2 = .ok (.putfield 32, 3) := by decide +kernel
theorem dX4_setStrength_5 : decode cX4_setStrength 5 = .ok (.aload_n 0, 1) := by decide +kernel
theorem dX4_setStrength_6 : decode cX4_setStrength 6 = .ok (.iload_n 1, 1) := by decide +kernel
theorem dX4_setStrength_7 : decode cX4_setStrength 7 = .ok (.invokevirtual 101, 3) := by decide +kernel
theorem dX4_setStrength_10 : decode cX4_setStrength 10 = .ok (.ifCond .ne 9, 3) := by decide +kernel
theorem dX4_setStrength_13 : decode cX4_setStrength 13 = .ok (.aload_n 0, 1) := by decide +kernel
theorem dX4_setStrength_14 : decode cX4_setStrength 14 = .ok (.iconst 1, 1) := by decide +kernel
theorem dX4_setStrength_15 : decode cX4_setStrength 15 = .ok (.invokevirtual 91, 3) := by decide +kernel
theorem dX4_setStrength_18 : decode cX4_setStrength 18 = .ok (.ireturn, 1) := by decide +kernel
theorem dX4_setStrength_19 : decode cX4_setStrength 19 = .ok (.iload_n 2, 1) := by decide +kernel
theorem dX4_setStrength_20 : decode cX4_setStrength 20 = .ok (.invokestatic 98, 3) := by decide +kernel
theorem dX4_setStrength_23 : decode cX4_setStrength 23 = .ok (.ifCond .ne 9, 3) := by decide +kernel
theorem dX4_setStrength_26 : decode cX4_setStrength 26 = .ok (.aload_n 0, 1) := by decide +kernel
theorem dX4_setStrength_27 : decode cX4_setStrength 27 = .ok (.iconst 2, 1) := by decide +kernel
theorem dX4_setStrength_28 : decode cX4_setStrength 28 = .ok (.invokevirtual 91, 3) := by decide +kernel
theorem dX4_setStrength_31 : decode cX4_setStrength 31 = .ok (.ireturn, 1) := by decide +kernel
theorem dX4_setStrength_32 : decode cX4_setStrength 32 = .ok (.aload_n 0, 1) := by decide +kernel
theorem dX4_setStrength_33 : decode cX4_setStrength 33 = .ok (.getfield 17, 3) := by decide +kernel
theorem dX4_setStrength_36 : decode cX4_setStrength 36 = .ok (.iload_n 1, 1) := by decide +kernel
theorem dX4_setStrength_37 : decode cX4_setStrength 37 = .ok (.iaload, 1) := by decide +kernel
theorem dX4_setStrength_38 : decode cX4_setStrength 38 = .ok (.istore_n 3, 1) := by decide +kernel
theorem dX4_setStrength_39 : decode cX4_setStrength 39 = .ok (.aload_n 0, 1) := by decide +kernel
theorem dX4_setStrength_40 : decode cX4_setStrength 40 = .ok (.getfield 17, 3) := by decide +kernel
theorem dX4_setStrength_43 : decode cX4_setStrength 43 = .ok (.iload_n 1, 1) := by decide +kernel
theorem dX4_setStrength_44 : decode cX4_setStrength 44 = .ok (.iload_n 2, 1) := by decide +kernel
theorem dX4_setStrength_45 : decode cX4_setStrength 45 = .ok (.iastore, 1) := by decide +kernel
theorem dX4_setStrength_46 : decode cX4_setStrength 46 = .ok (.iload_n 3, 1) := by decide +kernel
theorem dX4_setStrength_47 : decode cX4_setStrength 47 = .ok (.ireturn, 1) := by decide +kernel
set_option maxRecDepth 20000 in
theorem ggX4_setStorm_X4_isIn : GoodIn wsX4_setStorm wsX4_isIn := goodIn_r _ [6] (by decide +kernel) (by decide +kernel)
set_option maxRecDepth 20000 in
theorem gX4_setStorm_X4_isIn : GoodIn wsX4_setStorm (va_wsS RX4 35 yX4_isIn wsX4_isIn) := goodIn_app (goodIn_of _ (by decide +kernel)) ggX4_setStorm_X4_isIn
set_option maxRecDepth 20000 in
theorem ggX4_setStorm_X4_no : GoodIn wsX4_setStorm wsX4_no := goodIn_r _ [10, 1, 11, 12, 13, 14, 15, 16, 17, 18, 19] (by decide +kernel) (by decide +kernel)
set_option maxRecDepth 20000 in
theorem gX4_setStorm_X4_no : GoodIn wsX4_setStorm (wsV RX4 91 RX4 yX4_no wsX4_no) := goodIn_app (goodIn_of _ (by decide +kernel)) ggX4_setStorm_X4_no
theorem dX4_setStorm_0 : decode cX4_setStorm 0 = .ok (.aload_n 0, 1) := by decide +kernel
theorem dX4_setStorm_1 : decode cX4_setStorm 1 = .ok (.iconst 0, 1) := by decide +kernel
theorem dX4_setStorm_2 : decode cX4_setStorm 2 = .ok (.putfield 32, 3) := by decide +kernel
theorem dX4_setStorm_5 : decode cX4_setStorm 5 = .ok (.iload_n 1, 1) := by decide +kernel
theorem dX4_setStorm_6 : decode cX4_setStorm 6 = .ok (.iconst 0, 1) := by decide +kernel
theorem dX4_setStorm_7 : decode cX4_setStorm 7 = .ok (.bipush 19, 2) := by decide +kernel
theorem dX4_setStorm_9 : decode cX4_setStorm 9 = .ok (.invokestatic 35, 3) := by decide +kernel
theorem dX4_setStorm_12 : decode cX4_setStorm 12 = .ok (.ifCond .ne 9, 3) := by decide +kernel
theorem dX4_setStorm_15 : decode cX4_setStorm 15 = .ok (.aload_n 0, 1) := by decide +kernel
theorem dX4_setStorm_16 : decode cX4_setStorm 16 = .ok (.iconst 1, 1) := by decide +kernel
theorem dX4_setStorm_17 : decode cX4_setStorm 17 = .ok (.invokevirtual 91, 3) := by decide +kernel
theorem dX4_setStorm_20 : decode cX4_setStorm 20 = .ok (.ireturn, 1) := by decide +kernel
theorem dX4_setStorm_21 : decode cX4_setStorm 21 = .ok (.iload_n 2, 1) := by decide +kernel
theorem dX4_setStorm_22 : decode cX4_setStorm 22 = .ok (.bipush (-99), 2) := by decide +kernel
theorem dX4_setStorm_24 : decode cX4_setStorm 24 = .ok (.bipush 99, 2) := by decide +kernel
theorem dX4_setStorm_26 : decode cX4_setStorm 26 = .ok (.invokestatic 35, 3) := by decide +kernel
theorem dX4_setStorm_29 : decode cX4_setStorm 29 = .ok (.ifCond .ne 9, 3) := by decide +kernel
theorem dX4_setStorm_32 : decode cX4_setStorm 32 = .ok (.aload_n 0, 1) := by decide +kernel
theorem dX4_setStorm_33 : decode cX4_setStorm 33 = .ok (.iconst 2, 1) := by decide +kernel
theorem dX4_setStorm_34 : decode cX4_setStorm 34 = .ok (.invokevirtual 91, 3) := by decide +kernel
theorem dX4_setStorm_37 : decode cX4_setStorm 37 = .ok (.ireturn, 1) := by decide +kernel
theorem dX4_setStorm_38 : decode cX4_setStorm 38 = .ok (.aload_n 0, 1) := by decide +kernel
theorem dX4_setStorm_39 : decode cX4_setStorm 39 = .ok (.getfield 29, 3) := by decide +kernel
theorem dX4_setStorm_42 : decode cX4_setStorm 42 = .ok (.iload_n 1, 1) := by decide +kernel
theorem dX4_setStorm_43 : decode cX4_setStorm 43 = .ok (.iaload, 1) := by decide +kernel
theorem dX4_setStorm_44 : decode cX4_setStorm 44 = .ok (.istore_n 3, 1) := by decide +kernel
theorem dX4_setStorm_45 : decode cX4_setStorm 45 = .ok (.aload_n 0, 1) := by decide +kernel
theorem dX4_setStorm_46 : decode cX4_setStorm 46 = .ok (.getfield 29, 3) := by decide +kernel
theorem dX4_setStorm_49 : decode cX4_setStorm 49 = .ok (.iload_n 1, 1) := by decide +kernel
theorem dX4_setStorm_50 : decode cX4_setStorm 50 = .ok (.iload_n 2, 1) := by decide +kernel
theorem dX4_setStorm_51 : decode cX4_setStorm 51 = .ok (.iastore, 1) := by decide +kernel
theorem dX4_setStorm_52 : decode cX4_setStorm 52 = .ok (.iload_n 3, 1) := by decide +kernel
theorem dX4_setStorm_53 : decode cX4_setStorm 53 = .ok (.ireturn, 1) := by decide +kernel
set_option maxRecDepth 20000 in
theorem ggX4_chip_X4_isCode : GoodIn wsX4_chip wsX4_isCode := goodIn_r _ [6, 7, 8, 9, 5, 10, 25, 26, 27, 28, 29, 30, 31, 32, 33] (by decide +kernel) (by decide +kernel)
set_option maxRecDepth 20000 in
theorem gX4_chip_X4_isCode : GoodIn wsX4_chip (wsV RX4 94 RX4 yX4_isCode wsX4_isCode) := goodIn_app (goodIn_of _ (by decide +kernel)) ggX4_chip_X4_isCode
set_option maxRecDepth 20000 in
theorem ggX4_chip_X4_chipOf : GoodIn wsX4_chip wsX4_chipOf := goodIn_r _ [13, 14, 15, 16, 17, 18, 19, 20] (by decide +kernel) (by decide +kernel)
set_option maxRecDepth 20000 in
theorem gX4_chip_X4_chipOf : GoodIn wsX4_chip (va_wsS RX4 48 yX4_chipOf wsX4_chipOf) := goodIn_app (goodIn_of _ (by decide +kernel)) ggX4_chip_X4_chipOf
set_option maxRecDepth 20000 in
theorem ggX4_chip_X4_no : GoodIn wsX4_chip wsX4_no := goodIn_r _ [24, 1, 25, 26, 27, 28, 29, 30, 31, 32, 33] (by decide +kernel) (by decide +kernel)
set_option maxRecDepth 20000 in
theorem gX4_chip_X4_no : GoodIn wsX4_chip (wsV RX4 91 RX4 yX4_no wsX4_no) := goodIn_app (goodIn_of _ (by decide +kernel)) ggX4_chip_X4_no
theorem dX4_chip_0 : decode cX4_chip 0 = .ok (.aload_n 0, 1) := by decide +kernel
theorem dX4_chip_1 : decode cX4_chip 1 = .ok (.iconst 0, 1) := by decide +kernel
theorem dX4_chip_2 : decode cX4_chip 2 = .ok (.putfield 32, 3) := by decide +kernel
theorem dX4_chip_5 : decode cX4_chip 5 = .ok (.aload_n 0, 1) := by decide +kernel
theorem dX4_chip_6 : decode cX4_chip 6 = .ok (.iload_n 1, 1) := by decide +kernel
theorem dX4_chip_7 : decode cX4_chip 7 = .ok (.invokevirtual 94, 3) := by decide +kernel
theorem dX4_chip_10 : decode cX4_chip 10 = .ok (.ifCond .eq 19, 3) := by decide +kernel
theorem dX4_chip_13 : decode cX4_chip 13 = .ok (.aload_n 0, 1) := by decide +kernel
theorem dX4_chip_14 : decode cX4_chip 14 = .ok (.iload_n 2, 1) := by decide +kernel
theorem dX4_chip_15 : decode cX4_chip 15 = .ok (.invokevirtual 94, 3) := by decide +kernel
theorem dX4_chip_18 : decode cX4_chip 18 = .ok (.ifCond .eq 11, 3) := by decide +kernel
theorem dX4_chip_21 : decode cX4_chip 21 = .ok (.iload_n 1, 1) := by decide +kernel
theorem dX4_chip_22 : decode cX4_chip 22 = .ok (.iload_n 2, 1) := by decide +kernel
theorem dX4_chip_23 : decode cX4_chip 23 = .ok (.invokestatic 48, 3) := by decide +kernel
theorem dX4_chip_26 : decode cX4_chip 26 = .ok (.goto 8, 3) := by decide +kernel
theorem dX4_chip_29 : decode cX4_chip 29 = .ok (.aload_n 0, 1) := by decide +kernel
theorem dX4_chip_30 : decode cX4_chip 30 = .ok (.iconst 1, 1) := by decide +kernel
theorem dX4_chip_31 : decode cX4_chip 31 = .ok (.invokevirtual 91, 3) := by decide +kernel
theorem dX4_chip_34 : decode cX4_chip 34 = .ok (.ireturn, 1) := by decide +kernel
set_option maxRecDepth 20000 in
theorem ggX4_sky_X4_isTime : GoodIn wsX4_sky wsX4_isTime := goodIn_r _ [5, 6, 7, 4, 8] (by decide +kernel) (by decide +kernel)
set_option maxRecDepth 20000 in
theorem gX4_sky_X4_isTime : GoodIn wsX4_sky (va_wsS RX4 104 yX4_isTime wsX4_isTime) := goodIn_app (goodIn_of _ (by decide +kernel)) ggX4_sky_X4_isTime
set_option maxRecDepth 20000 in
theorem ggX4_sky_X4_skyAt : GoodIn wsX4_sky wsX4_skyAt := goodIn_r _ [12, 13, 14, 15, 16, 17, 4, 18, 19, 20, 21, 22, 23, 24, 25, 26, 27, 28, 29, 30, 31, 32, 33, 34, 39, 40, 41, 42, 43, 44, 45, 46, 47] (by decide +kernel) (by decide +kernel)
set_option maxRecDepth 20000 in
theorem gX4_sky_X4_skyAt : GoodIn wsX4_sky (wsV RX4 55 RX4 yX4_skyAt wsX4_skyAt) := goodIn_app (goodIn_of _ (by decide +kernel)) ggX4_sky_X4_skyAt
set_option maxRecDepth 20000 in
theorem ggX4_sky_X4_no : GoodIn wsX4_sky wsX4_no := goodIn_r _ [38, 1, 39, 40, 41, 42, 43, 44, 45, 46, 47] (by decide +kernel) (by decide +kernel)
set_option maxRecDepth 20000 in
theorem gX4_sky_X4_no : GoodIn wsX4_sky (wsV RX4 91 RX4 yX4_no wsX4_no) := goodIn_app (goodIn_of _ (by decide +kernel)) ggX4_sky_X4_no
theorem dX4_sky_0 : decode cX4_sky 0 = .ok (.aload_n 0, 1) := by decide +kernel
theorem dX4_sky_1 : decode cX4_sky 1 = .ok (.iconst 0, 1) := by decide +kernel
theorem dX4_sky_2 : decode cX4_sky 2 = .ok (.putfield 32, 3) := by decide +kernel
theorem dX4_sky_5 : decode cX4_sky 5 = .ok (.iload_n 1, 1) := by decide +kernel
theorem dX4_sky_6 : decode cX4_sky 6 = .ok (.invokestatic 104, 3) := by decide +kernel
theorem dX4_sky_9 : decode cX4_sky 9 = .ok (.ifCond .eq 11, 3) := by decide +kernel
theorem dX4_sky_12 : decode cX4_sky 12 = .ok (.aload_n 0, 1) := by decide +kernel
theorem dX4_sky_13 : decode cX4_sky 13 = .ok (.iload_n 1, 1) := by decide +kernel
theorem dX4_sky_14 : decode cX4_sky 14 = .ok (.invokevirtual 55, 3) := by decide +kernel
theorem dX4_sky_17 : decode cX4_sky 17 = .ok (.goto 8, 3) := by decide +kernel
theorem dX4_sky_20 : decode cX4_sky 20 = .ok (.aload_n 0, 1) := by decide +kernel
theorem dX4_sky_21 : decode cX4_sky 21 = .ok (.iconst 1, 1) := by decide +kernel
theorem dX4_sky_22 : decode cX4_sky 22 = .ok (.invokevirtual 91, 3) := by decide +kernel
theorem dX4_sky_25 : decode cX4_sky 25 = .ok (.ireturn, 1) := by decide +kernel
set_option maxRecDepth 20000 in
theorem ggX4_hear_X4_isCode : GoodIn wsX4_hear wsX4_isCode := goodIn_r _ [6, 7, 8, 9, 5, 10, 47, 48, 49, 50, 51, 52, 53, 54, 55] (by decide +kernel) (by decide +kernel)
set_option maxRecDepth 20000 in
theorem gX4_hear_X4_isCode : GoodIn wsX4_hear (wsV RX4 94 RX4 yX4_isCode wsX4_isCode) := goodIn_app (goodIn_of _ (by decide +kernel)) ggX4_hear_X4_isCode
set_option maxRecDepth 20000 in
theorem ggX4_hear_X4_no : GoodIn wsX4_hear wsX4_no := goodIn_r _ [14, 1, 47, 48, 49, 50, 51, 52, 53, 54, 55] (by decide +kernel) (by decide +kernel)
set_option maxRecDepth 20000 in
theorem gX4_hear_X4_no : GoodIn wsX4_hear (wsV RX4 91 RX4 yX4_no wsX4_no) := goodIn_app (goodIn_of _ (by decide +kernel)) ggX4_hear_X4_no
set_option maxRecDepth 20000 in
theorem ggX4_hear_X4_isTime : GoodIn wsX4_hear wsX4_isTime := goodIn_r _ [17, 8, 9, 5, 10] (by decide +kernel) (by decide +kernel)
set_option maxRecDepth 20000 in
theorem gX4_hear_X4_isTime : GoodIn wsX4_hear (va_wsS RX4 104 yX4_isTime wsX4_isTime) := goodIn_app (goodIn_of _ (by decide +kernel)) ggX4_hear_X4_isTime
set_option maxRecDepth 20000 in
theorem ggX4_hear_X4_heard : GoodIn wsX4_hear wsX4_heard := goodIn_r _ [21, 7, 22, 23, 24, 5, 25, 26, 27, 28, 29, 30, 31, 32, 33, 34, 35, 36, 37, 38, 39, 40, 41, 42, 43, 44, 45, 46, 47, 48, 49, 50, 51, 52, 53, 54, 55] (by decide +kernel) (by decide +kernel)
set_option maxRecDepth 20000 in
theorem gX4_hear_X4_heard : GoodIn wsX4_hear (wsV RX4 61 RX4 yX4_heard wsX4_heard) := goodIn_app (goodIn_of _ (by decide +kernel)) ggX4_hear_X4_heard
theorem dX4_hear_0 : decode cX4_hear 0 = .ok (.aload_n 0, 1) := by decide +kernel
theorem dX4_hear_1 : decode cX4_hear 1 = .ok (.iconst 0, 1) := by decide +kernel
theorem dX4_hear_2 : decode cX4_hear 2 = .ok (.putfield 32, 3) := by decide +kernel
theorem dX4_hear_5 : decode cX4_hear 5 = .ok (.aload_n 0, 1) := by decide +kernel
theorem dX4_hear_6 : decode cX4_hear 6 = .ok (.iload_n 1, 1) := by decide +kernel
theorem dX4_hear_7 : decode cX4_hear 7 = .ok (.invokevirtual 94, 3) := by decide +kernel
theorem dX4_hear_10 : decode cX4_hear 10 = .ok (.ifCond .ne 9, 3) := by decide +kernel
theorem dX4_hear_13 : decode cX4_hear 13 = .ok (.aload_n 0, 1) := by decide +kernel
theorem dX4_hear_14 : decode cX4_hear 14 = .ok (.iconst 1, 1) := by decide +kernel
theorem dX4_hear_15 : decode cX4_hear 15 = .ok (.invokevirtual 91, 3) := by decide +kernel
theorem dX4_hear_18 : decode cX4_hear 18 = .ok (.ireturn, 1) := by decide +kernel
theorem dX4_hear_19 : decode cX4_hear 19 = .ok (.iload_n 2, 1) := by decide +kernel
theorem dX4_hear_20 : decode cX4_hear 20 = .ok (.invokestatic 104, 3) := by decide +kernel
theorem dX4_hear_23 : decode cX4_hear 23 = .ok (.ifCond .eq 12, 3) := by decide +kernel
theorem dX4_hear_26 : decode cX4_hear 26 = .ok (.aload_n 0, 1) := by decide +kernel
theorem dX4_hear_27 : decode cX4_hear 27 = .ok (.iload_n 1, 1) := by decide +kernel
theorem dX4_hear_28 : decode cX4_hear 28 = .ok (.iload_n 2, 1) := by decide +kernel
theorem dX4_hear_29 : decode cX4_hear 29 = .ok (.invokevirtual 61, 3) := by decide +kernel
theorem dX4_hear_32 : decode cX4_hear 32 = .ok (.goto 8, 3) := by decide +kernel
theorem dX4_hear_35 : decode cX4_hear 35 = .ok (.aload_n 0, 1) := by decide +kernel
theorem dX4_hear_36 : decode cX4_hear 36 = .ok (.iconst 2, 1) := by decide +kernel
theorem dX4_hear_37 : decode cX4_hear 37 = .ok (.invokevirtual 91, 3) := by decide +kernel
theorem dX4_hear_40 : decode cX4_hear 40 = .ok (.ireturn, 1) := by decide +kernel
set_option maxRecDepth 20000 in
theorem ggX4_wordTold_X4_heardOf : GoodIn wsX4_wordTold wsX4_heardOf := goodIn_r _ [6, 7, 8, 9, 10, 5, 11, 12, 13, 14, 15, 16, 17, 18, 19, 20, 21, 22, 23, 24, 25, 26, 27, 28, 29, 1, 30, 31, 32, 33, 34, 35, 36, 37, 38, 39, 47, 48, 49, 50, 51, 52, 53, 54, 55] (by decide +kernel) (by decide +kernel)
set_option maxRecDepth 20000 in
theorem gX4_wordTold_X4_heardOf : GoodIn wsX4_wordTold (wsV RX4 64 RX4 yX4_heardOf wsX4_heardOf) := goodIn_app (goodIn_of _ (by decide +kernel)) ggX4_wordTold_X4_heardOf
set_option maxRecDepth 20000 in
theorem ggX4_wordTold_X4_isWrong : GoodIn wsX4_wordTold wsX4_isWrong := goodIn_r _ [43, 1, 2, 3, 4, 5, 6, 7, 8, 9, 10, 11, 12, 13, 14, 15, 16, 17, 18, 19, 20, 21, 22, 23, 24, 25, 26, 27, 28, 29, 30, 31, 32, 33, 34, 35, 36, 37, 38, 39, 44, 45, 46, 47, 48, 49, 50, 51, 52, 53, 54, 55] (by decide +kernel) (by decide +kernel)
set_option maxRecDepth 20000 in
theorem gX4_wordTold_X4_isWrong : GoodIn wsX4_wordTold (wsV RX4 70 RX4 yX4_isWrong wsX4_isWrong) := goodIn_app (goodIn_of _ (by decide +kernel)) ggX4_wordTold_X4_isWrong
theorem dX4_wordTold_0 : decode cX4_wordTold 0 = .ok (.iload_n 3, 1) := by decide +kernel
theorem dX4_wordTold_1 : decode cX4_wordTold 1 = .ok (.ifCond .ne 17, 3) := by decide +kernel
theorem dX4_wordTold_4 : decode cX4_wordTold 4 = .ok (.aload_n 0, 1) := by decide +kernel
theorem dX4_wordTold_5 : decode cX4_wordTold 5 = .ok (.getfield 26, 3) := by decide +kernel
theorem dX4_wordTold_8 : decode cX4_wordTold 8 = .ok (.bipush 12, 2) := by decide +kernel
theorem dX4_wordTold_10 : decode cX4_wordTold 10 = .ok (.iload_n 1, 1) := by decide +kernel
theorem dX4_wordTold_11 : decode cX4_wordTold 11 = .ok (.imul, 1) := by decide +kernel
theorem dX4_wordTold_12 : decode cX4_wordTold 12 = .ok (.iload_n 2, 1) := by decide +kernel
theorem dX4_wordTold_13 : decode cX4_wordTold 13 = .ok (.iadd, 1) := by decide +kernel
theorem dX4_wordTold_14 : decode cX4_wordTold 14 = .ok (.iaload, 1) := by decide +kernel
theorem dX4_wordTold_15 : decode cX4_wordTold 15 = .ok (.goto 23, 3) := by decide +kernel
theorem dX4_wordTold_18 : decode cX4_wordTold 18 = .ok (.iload_n 3, 1) := by decide +kernel
theorem dX4_wordTold_19 : decode cX4_wordTold 19 = .ok (.iconst 1, 1) := by decide +kernel
theorem dX4_wordTold_20 : decode cX4_wordTold 20 = .ok (.if_icmp .ne 12, 3) := by decide +kernel
theorem dX4_wordTold_23 : decode cX4_wordTold 23 = .ok (.aload_n 0, 1) := by decide +kernel
theorem dX4_wordTold_24 : decode cX4_wordTold 24 = .ok (.iload_n 1, 1) := by decide +kernel
theorem dX4_wordTold_25 : decode cX4_wordTold 25 = .ok (.iload_n 2, 1) := by decide +kernel
theorem dX4_wordTold_26 : decode cX4_wordTold 26 = .ok (.invokevirtual 64, 3) := by decide +kernel
theorem dX4_wordTold_29 : decode cX4_wordTold 29 = .ok (.goto 9, 3) := by decide +kernel
theorem dX4_wordTold_32 : decode cX4_wordTold 32 = .ok (.aload_n 0, 1) := by decide +kernel
theorem dX4_wordTold_33 : decode cX4_wordTold 33 = .ok (.iload_n 1, 1) := by decide +kernel
theorem dX4_wordTold_34 : decode cX4_wordTold 34 = .ok (.iload_n 2, 1) := by decide +kernel
theorem dX4_wordTold_35 : decode cX4_wordTold 35 = .ok (.invokevirtual 70, 3) := by decide +kernel
theorem dX4_wordTold_38 : decode cX4_wordTold 38 = .ok (.ireturn, 1) := by decide +kernel
set_option maxRecDepth 20000 in
theorem ggX4_word_X4_isHill : GoodIn wsX4_word wsX4_isHill := goodIn_r _ [7, 8, 9, 10, 6, 11, 63, 64, 65, 66, 67, 68, 69, 70, 71] (by decide +kernel) (by decide +kernel)
set_option maxRecDepth 20000 in
theorem gX4_word_X4_isHill : GoodIn wsX4_word (wsV RX4 101 RX4 yX4_isHill wsX4_isHill) := goodIn_app (goodIn_of _ (by decide +kernel)) ggX4_word_X4_isHill
set_option maxRecDepth 20000 in
theorem ggX4_word_X4_isIn : GoodIn wsX4_word wsX4_isIn := goodIn_r _ [11] (by decide +kernel) (by decide +kernel)
set_option maxRecDepth 20000 in
theorem gX4_word_X4_isIn : GoodIn wsX4_word (va_wsS RX4 35 yX4_isIn wsX4_isIn) := goodIn_app (goodIn_of _ (by decide +kernel)) ggX4_word_X4_isIn
set_option maxRecDepth 20000 in
theorem ggX4_word_X4_wordTold : GoodIn wsX4_word wsX4_wordTold := goodIn_r _ [15, 16, 17, 18, 19, 6, 20, 21, 22, 23, 24, 25, 26, 27, 28, 29, 30, 31, 32, 33, 34, 35, 36, 8, 37, 38, 39, 40, 2, 41, 42, 43, 44, 45, 46, 47, 48, 49, 50, 51, 52, 53, 54, 55, 56, 57, 58, 63, 64, 65, 66, 67, 68, 69, 70, 71] (by decide +kernel) (by decide +kernel)
set_option maxRecDepth 20000 in
theorem gX4_word_X4_wordTold : GoodIn wsX4_word (wsV RX4 107 RX4 yX4_wordTold wsX4_wordTold) := goodIn_app (goodIn_of _ (by decide +kernel)) ggX4_word_X4_wordTold
set_option maxRecDepth 20000 in
theorem ggX4_word_X4_no : GoodIn wsX4_word wsX4_no := goodIn_r _ [62, 1, 63, 64, 65, 66, 67, 68, 69, 70, 71] (by decide +kernel) (by decide +kernel)
set_option maxRecDepth 20000 in
theorem gX4_word_X4_no : GoodIn wsX4_word (wsV RX4 91 RX4 yX4_no wsX4_no) := goodIn_app (goodIn_of _ (by decide +kernel)) ggX4_word_X4_no
theorem dX4_word_0 : decode cX4_word 0 = .ok (.aload_n 0, 1) := by decide +kernel
theorem dX4_word_1 : decode cX4_word 1 = .ok (.iconst 0, 1) := by decide +kernel
theorem dX4_word_2 : decode cX4_word 2 = .ok (.putfield 32, 3) := by decide +kernel
theorem dX4_word_5 : decode cX4_word 5 = .ok (.aload_n 0, 1) := by decide +kernel
theorem dX4_word_6 : decode cX4_word 6 = .ok (.iload_n 1, 1) := by decide +kernel
theorem dX4_word_7 : decode cX4_word 7 = .ok (.invokevirtual 101, 3) := by decide +kernel
theorem dX4_word_10 : decode cX4_word 10 = .ok (.ifCond .eq 38, 3) := by decide +kernel
theorem dX4_word_13 : decode cX4_word 13 = .ok (.iload_n 2, 1) := by decide +kernel
theorem dX4_word_14 : decode cX4_word 14 = .ok (.iconst 0, 1) := by decide +kernel
theorem dX4_word_15 : decode cX4_word 15 = .ok (.aload_n 0, 1) := by decide +kernel
theorem dX4_word_16 : decode cX4_word 16 = .ok (.getfield 23, 3) := by decide +kernel
theorem dX4_word_19 : decode cX4_word 19 = .ok (.iload_n 1, 1) := by decide +kernel
theorem dX4_word_20 : decode cX4_word 20 = .ok (.iaload, 1) := by decide +kernel
theorem dX4_word_21 : decode cX4_word 21 = .ok (.iconst 1, 1) := by decide +kernel
theorem dX4_word_22 : decode cX4_word 22 = .ok (.isub, 1) := by decide +kernel
theorem dX4_word_23 : decode cX4_word 23 = .ok (.invokestatic 35, 3) := by decide +kernel
theorem dX4_word_26 : decode cX4_word 26 = .ok (.ifCond .eq 22, 3) := by decide +kernel
theorem dX4_word_29 : decode cX4_word 29 = .ok (.iload_n 3, 1) := by decide +kernel
theorem dX4_word_30 : decode cX4_word 30 = .ok (.iconst 0, 1) := by decide +kernel
theorem dX4_word_31 : decode cX4_word 31 = .ok (.iconst 2, 1) := by decide +kernel
theorem dX4_word_32 : decode cX4_word 32 = .ok (.invokestatic 35, 3) := by decide +kernel
theorem dX4_word_35 : decode cX4_word 35 = .ok (.ifCond .eq 13, 3) := by decide +kernel
theorem dX4_word_38 : decode cX4_word 38 = .ok (.aload_n 0, 1) := by decide +kernel
theorem dX4_word_39 : decode cX4_word 39 = .ok (.iload_n 1, 1) := by decide +kernel
theorem dX4_word_40 : decode cX4_word 40 = .ok (.iload_n 2, 1) := by decide +kernel
theorem dX4_word_41 : decode cX4_word 41 = .ok (.iload_n 3, 1) := by decide +kernel
theorem dX4_word_42 : decode cX4_word 42 = .ok (.invokevirtual 107, 3) := by decide +kernel
theorem dX4_word_45 : decode cX4_word 45 = .ok (.goto 8, 3) := by decide +kernel
theorem dX4_word_48 : decode cX4_word 48 = .ok (.aload_n 0, 1) := by decide +kernel
theorem dX4_word_49 : decode cX4_word 49 = .ok (.iconst 1, 1) := by decide +kernel
theorem dX4_word_50 : decode cX4_word 50 = .ok (.invokevirtual 91, 3) := by decide +kernel
theorem dX4_word_53 : decode cX4_word 53 = .ok (.ireturn, 1) := by decide +kernel
set_option maxRecDepth 20000 in
theorem ggX4_faintest_X4_heardOf : GoodIn wsX4_faintest wsX4_heardOf := goodIn_r _ [13, 14, 15, 16, 17, 12, 18, 19, 20, 21, 22, 23, 24, 25, 26, 27, 28, 29, 30, 31, 32, 33, 34, 1, 35, 36, 37, 38, 39, 40, 41, 42, 43, 44, 45, 46, 47, 48, 49, 50, 51, 52, 53, 54, 55] (by decide +kernel) (by decide +kernel)
set_option maxRecDepth 20000 in
theorem gX4_faintest_X4_heardOf : GoodIn wsX4_faintest (wsV RX4 64 RX4 yX4_heardOf wsX4_heardOf) := goodIn_app (goodIn_of _ (by decide +kernel)) ggX4_faintest_X4_heardOf
theorem dX4_faintest_0 : decode cX4_faintest 0 = .ok (.iconst 0, 1) := by decide +kernel
theorem dX4_faintest_1 : decode cX4_faintest 1 = .ok (.istore_n 2, 1) := by decide +kernel
theorem dX4_faintest_2 : decode cX4_faintest 2 = .ok (.iconst 0, 1) := by decide +kernel
theorem dX4_faintest_3 : decode cX4_faintest 3 = .ok (.istore_n 3, 1) := by decide +kernel
theorem dX4_faintest_4 : decode cX4_faintest 4 = .ok (.iload_n 3, 1) := by decide +kernel
theorem dX4_faintest_5 : decode cX4_faintest 5 = .ok (.aload_n 0, 1) := by decide +kernel
theorem dX4_faintest_6 : decode cX4_faintest 6 = .ok (.getfield 23, 3) := by decide +kernel
theorem dX4_faintest_9 : decode cX4_faintest 9 = .ok (.iload_n 1, 1) := by decide +kernel
theorem dX4_faintest_10 : decode cX4_faintest 10 = .ok (.iaload, 1) := by decide +kernel
theorem dX4_faintest_11 : decode cX4_faintest 11 = .ok (.if_icmp .ge 39, 3) := by decide +kernel
theorem dX4_faintest_14 : decode cX4_faintest 14 = .ok (.iload_n 3, 1) := by decide +kernel
theorem dX4_faintest_15 : decode cX4_faintest 15 = .ok (.ifCond .ne 15, 3) := by decide +kernel
theorem dX4_faintest_18 : decode cX4_faintest 18 = .ok (.aload_n 0, 1) := by decide +kernel
theorem dX4_faintest_19 : decode cX4_faintest 19 = .ok (.iload_n 1, 1) := by decide +kernel
theorem dX4_faintest_20 : decode cX4_faintest 20 = .ok (.iload_n 3, 1) := by decide +kernel
theorem dX4_faintest_21 : decode cX4_faintest 21 = .ok (.invokevirtual 64, 3) := by decide +kernel
theorem dX4_faintest_24 : decode cX4_faintest 24 = .ok (.invokestatic 88, 3) := by decide +kernel
theorem dX4_faintest_27 : decode cX4_faintest 27 = .ok (.goto 16, 3) := by decide +kernel
theorem dX4_faintest_30 : decode cX4_faintest 30 = .ok (.iload_n 2, 1) := by decide +kernel
theorem dX4_faintest_31 : decode cX4_faintest 31 = .ok (.aload_n 0, 1) := by decide +kernel
theorem dX4_faintest_32 : decode cX4_faintest 32 = .ok (.iload_n 1, 1) := by decide +kernel
theorem dX4_faintest_33 : decode cX4_faintest 33 = .ok (.iload_n 3, 1) := by decide +kernel
theorem dX4_faintest_34 : decode cX4_faintest 34 = .ok (.invokevirtual 64, 3) := by decide +kernel
theorem dX4_faintest_37 : decode cX4_faintest 37 = .ok (.invokestatic 88, 3) := by decide +kernel
theorem dX4_faintest_40 : decode cX4_faintest 40 = .ok (.invokestatic 111, 3) := by decide +kernel
theorem dX4_faintest_43 : decode cX4_faintest 43 = .ok (.istore_n 2, 1) := by decide +kernel
theorem dX4_faintest_44 : decode cX4_faintest 44 = .ok (.iinc 3 1, 3) := by decide +kernel
theorem dX4_faintest_47 : decode cX4_faintest 47 = .ok (.goto (-43), 3) := by decide +kernel
theorem dX4_faintest_50 : decode cX4_faintest 50 = .ok (.iload_n 2, 1) := by decide +kernel
theorem dX4_faintest_51 : decode cX4_faintest 51 = .ok (.ireturn, 1) := by decide +kernel
set_option maxRecDepth 20000 in
theorem ggX4_hillTold_X4_wrongOf : GoodIn wsX4_hillTold wsX4_wrongOf := goodIn_r _ [9, 4, 10, 11, 12, 8, 13, 14, 15, 16, 17, 18, 1, 19, 20, 21, 22, 3, 23, 24, 25, 26, 27, 28, 29, 30, 31, 32, 33, 34, 35, 36, 37, 2, 38, 39, 40, 41, 42, 43, 44, 45, 46, 47, 48, 49, 50, 66, 67, 68, 69, 70, 71, 72, 73, 74] (by decide +kernel) (by decide +kernel)
set_option maxRecDepth 20000 in
theorem gX4_hillTold_X4_wrongOf : GoodIn wsX4_hillTold (wsV RX4 73 RX4 yX4_wrongOf wsX4_wrongOf) := goodIn_app (goodIn_of _ (by decide +kernel)) ggX4_hillTold_X4_wrongOf
set_option maxRecDepth 20000 in
theorem ggX4_hillTold_X4_endOf : GoodIn wsX4_hillTold wsX4_endOf := goodIn_r _ [54, 4, 19, 20, 21, 8, 22, 3, 23, 66, 67, 68, 69, 70, 71, 72, 73, 74] (by decide +kernel) (by decide +kernel)
set_option maxRecDepth 20000 in
theorem gX4_hillTold_X4_endOf : GoodIn wsX4_hillTold (wsV RX4 76 RX4 yX4_endOf wsX4_endOf) := goodIn_app (goodIn_of _ (by decide +kernel)) ggX4_hillTold_X4_endOf
set_option maxRecDepth 20000 in
theorem ggX4_hillTold_X4_faintest : GoodIn wsX4_hillTold wsX4_faintest := goodIn_r _ [58, 4, 59, 60, 61, 62, 63, 64, 65, 15, 16, 17, 8, 18, 1, 19, 20, 21, 22, 3, 23, 24, 25, 26, 27, 28, 29, 30, 31, 32, 33, 34, 35, 36, 37, 2, 14, 38, 39, 40, 41, 42, 43, 44, 45, 46, 47, 66, 67, 68, 69, 70, 71, 72, 73, 74] (by decide +kernel) (by decide +kernel)
set_option maxRecDepth 20000 in
theorem gX4_hillTold_X4_faintest : GoodIn wsX4_hillTold (wsV RX4 114 RX4 yX4_faintest wsX4_faintest) := goodIn_app (goodIn_of _ (by decide +kernel)) ggX4_hillTold_X4_faintest
theorem dX4_hillTold_0 : decode cX4_hillTold 0 = .ok (.iload_n 2, 1) := by decide +kernel
theorem dX4_hillTold_1 : decode cX4_hillTold 1 = .ok (.tableswitch 79 0 5 #[39, 46, 53, 60, 67, 73], 39) := by decide +kernel
theorem dX4_hillTold_40 : decode cX4_hillTold 40 = .ok (.aload_n 0, 1) := by decide +kernel
theorem dX4_hillTold_41 : decode cX4_hillTold 41 = .ok (.getfield 13, 3) := by decide +kernel
theorem dX4_hillTold_44 : decode cX4_hillTold 44 = .ok (.iload_n 1, 1) := by decide +kernel
theorem dX4_hillTold_45 : decode cX4_hillTold 45 = .ok (.iaload, 1) := by decide +kernel
theorem dX4_hillTold_46 : decode cX4_hillTold 46 = .ok (.ireturn, 1) := by decide +kernel
theorem dX4_hillTold_47 : decode cX4_hillTold 47 = .ok (.aload_n 0, 1) := by decide +kernel
theorem dX4_hillTold_48 : decode cX4_hillTold 48 = .ok (.getfield 17, 3) := by decide +kernel
theorem dX4_hillTold_51 : decode cX4_hillTold 51 = .ok (.iload_n 1, 1) := by decide +kernel
theorem dX4_hillTold_52 : decode cX4_hillTold 52 = .ok (.iaload, 1) := by decide +kernel
theorem dX4_hillTold_53 : decode cX4_hillTold 53 = .ok (.ireturn, 1) := by decide +kernel
theorem dX4_hillTold_54 : decode cX4_hillTold 54 = .ok (.aload_n 0, 1) := by decide +kernel
theorem dX4_hillTold_55 : decode cX4_hillTold 55 = .ok (.getfield 20, 3) := by decide +kernel
theorem dX4_hillTold_58 : decode cX4_hillTold 58 = .ok (.iload_n 1, 1) := by decide +kernel
theorem dX4_hillTold_59 : decode cX4_hillTold 59 = .ok (.iaload, 1) := by decide +kernel
theorem dX4_hillTold_60 : decode cX4_hillTold 60 = .ok (.ireturn, 1) := by decide +kernel
theorem dX4_hillTold_61 : decode cX4_hillTold 61 = .ok (.aload_n 0, 1) := by decide +kernel
theorem dX4_hillTold_62 : decode cX4_hillTold 62 = .ok (.getfield 23, 3) := by decide +kernel
theorem dX4_hillTold_65 : decode cX4_hillTold 65 = .ok (.iload_n 1, 1) := by decide +kernel
theorem dX4_hillTold_66 : decode cX4_hillTold 66 = .ok (.iaload, 1) := by decide +kernel
theorem dX4_hillTold_67 : decode cX4_hillTold 67 = .ok (.ireturn, 1) := by decide +kernel
theorem dX4_hillTold_68 : decode cX4_hillTold 68 = .ok (.aload_n 0, 1) := by decide +kernel
theorem dX4_hillTold_69 : decode cX4_hillTold 69 = .ok (.iload_n 1, 1) := by decide +kernel
theorem dX4_hillTold_70 : decode cX4_hillTold 70 = .ok (.invokevirtual 73, 3) := by decide +kernel
theorem dX4_hillTold_73 : decode cX4_hillTold 73 = .ok (.ireturn, 1) := by decide +kernel
theorem dX4_hillTold_74 : decode cX4_hillTold 74 = .ok (.aload_n 0, 1) := by decide +kernel
theorem dX4_hillTold_75 : decode cX4_hillTold 75 = .ok (.iload_n 1, 1) := by decide +kernel
theorem dX4_hillTold_76 : decode cX4_hillTold 76 = .ok (.invokevirtual 76, 3) := by decide +kernel
theorem dX4_hillTold_79 : decode cX4_hillTold 79 = .ok (.ireturn, 1) := by decide +kernel
theorem dX4_hillTold_80 : decode cX4_hillTold 80 = .ok (.aload_n 0, 1) := by decide +kernel
theorem dX4_hillTold_81 : decode cX4_hillTold 81 = .ok (.iload_n 1, 1) := by decide +kernel
theorem dX4_hillTold_82 : decode cX4_hillTold 82 = .ok (.invokevirtual 114, 3) := by decide +kernel
theorem dX4_hillTold_85 : decode cX4_hillTold 85 = .ok (.ireturn, 1) := by decide +kernel
set_option maxRecDepth 20000 in
theorem ggX4_about_X4_isHill : GoodIn wsX4_about wsX4_isHill := goodIn_r _ [6, 7, 8, 9, 5, 10, 82, 83, 84, 85, 86, 87, 88, 89, 90] (by decide +kernel) (by decide +kernel)
set_option maxRecDepth 20000 in
theorem gX4_about_X4_isHill : GoodIn wsX4_about (wsV RX4 101 RX4 yX4_isHill wsX4_isHill) := goodIn_app (goodIn_of _ (by decide +kernel)) ggX4_about_X4_isHill
set_option maxRecDepth 20000 in
theorem ggX4_about_X4_isIn : GoodIn wsX4_about wsX4_isIn := goodIn_r _ [10] (by decide +kernel) (by decide +kernel)
set_option maxRecDepth 20000 in
theorem gX4_about_X4_isIn : GoodIn wsX4_about (va_wsS RX4 35 yX4_isIn wsX4_isIn) := goodIn_app (goodIn_of _ (by decide +kernel)) ggX4_about_X4_isIn
set_option maxRecDepth 20000 in
theorem ggX4_about_X4_hillTold : GoodIn wsX4_about wsX4_hillTold := goodIn_r _ [14, 15, 16, 17, 18, 19, 20, 21, 5, 22, 23, 24, 25, 26, 27, 28, 29, 30, 31, 32, 33, 34, 35, 36, 37, 38, 39, 40, 41, 42, 43, 44, 45, 7, 46, 47, 48, 49, 50, 51, 52, 53, 54, 55, 56, 57, 58, 59, 60, 61, 62, 63, 64, 65, 66, 67, 68, 69, 70, 71, 72, 73, 74, 75, 76, 77, 82, 83, 84, 85, 86, 87, 88, 89, 90] (by decide +kernel) (by decide +kernel)
set_option maxRecDepth 20000 in
theorem gX4_about_X4_hillTold : GoodIn wsX4_about (wsV RX4 117 RX4 yX4_hillTold wsX4_hillTold) := goodIn_app (goodIn_of _ (by decide +kernel)) ggX4_about_X4_hillTold
set_option maxRecDepth 20000 in
theorem ggX4_about_X4_no : GoodIn wsX4_about wsX4_no := goodIn_r _ [81, 1, 82, 83, 84, 85, 86, 87, 88, 89, 90] (by decide +kernel) (by decide +kernel)
set_option maxRecDepth 20000 in
theorem gX4_about_X4_no : GoodIn wsX4_about (wsV RX4 91 RX4 yX4_no wsX4_no) := goodIn_app (goodIn_of _ (by decide +kernel)) ggX4_about_X4_no
theorem dX4_about_0 : decode cX4_about 0 = .ok (.aload_n 0, 1) := by decide +kernel
theorem dX4_about_1 : decode cX4_about 1 = .ok (.iconst 0, 1) := by decide +kernel
theorem dX4_about_2 : decode cX4_about 2 = .ok (.putfield 32, 3) := by decide +kernel
theorem dX4_about_5 : decode cX4_about 5 = .ok (.aload_n 0, 1) := by decide +kernel
theorem dX4_about_6 : decode cX4_about 6 = .ok (.iload_n 1, 1) := by decide +kernel
theorem dX4_about_7 : decode cX4_about 7 = .ok (.invokevirtual 101, 3) := by decide +kernel
theorem dX4_about_10 : decode cX4_about 10 = .ok (.ifCond .eq 22, 3) := by decide +kernel
theorem dX4_about_13 : decode cX4_about 13 = .ok (.iload_n 2, 1) := by decide +kernel
theorem dX4_about_14 : decode cX4_about 14 = .ok (.iconst 0, 1) := by decide +kernel
theorem dX4_about_15 : decode cX4_about 15 = .ok (.bipush 6, 2) := by decide +kernel
theorem dX4_about_17 : decode cX4_about 17 = .ok (.invokestatic 35, 3) := by decide +kernel
theorem dX4_about_20 : decode cX4_about 20 = .ok (.ifCond .eq 12, 3) := by decide +kernel
theorem dX4_about_23 : decode cX4_about 23 = .ok (.aload_n 0, 1) := by decide +kernel
theorem dX4_about_24 : decode cX4_about 24 = .ok (.iload_n 1, 1) := by decide +kernel
theorem dX4_about_25 : decode cX4_about 25 = .ok (.iload_n 2, 1) := by decide +kernel
theorem dX4_about_26 : decode cX4_about 26 = .ok (.invokevirtual 117, 3) := by decide +kernel
theorem dX4_about_29 : decode cX4_about 29 = .ok (.goto 8, 3) := by decide +kernel
theorem dX4_about_32 : decode cX4_about 32 = .ok (.aload_n 0, 1) := by decide +kernel
theorem dX4_about_33 : decode cX4_about 33 = .ok (.iconst 1, 1) := by decide +kernel
theorem dX4_about_34 : decode cX4_about 34 = .ok (.invokevirtual 91, 3) := by decide +kernel
theorem dX4_about_37 : decode cX4_about 37 = .ok (.ireturn, 1) := by decide +kernel
set_option maxRecDepth 20000 in
theorem ggX4_counted_X4_allWrong : GoodIn wsX4_counted wsX4_allWrong := goodIn_r _ [8, 2, 9, 10, 11, 7, 12, 3, 13, 14, 15, 16, 17, 18, 19, 20, 21, 22, 23, 24, 25, 26, 27, 1, 28, 29, 30, 31, 32, 33, 34, 35, 36, 37, 38, 39, 40, 41, 42, 43, 44, 45, 46, 47, 48, 49, 50, 51, 52, 53, 54, 78, 79, 80, 81, 82, 83, 84, 85, 86] (by decide +kernel) (by decide +kernel)
set_option maxRecDepth 20000 in
theorem gX4_counted_X4_allWrong : GoodIn wsX4_counted (wsV RX4 120 RX4 yX4_allWrong wsX4_allWrong) := goodIn_app (goodIn_of _ (by decide +kernel)) ggX4_counted_X4_allWrong
set_option maxRecDepth 20000 in
theorem ggX4_counted_X4_end : GoodIn wsX4_counted wsX4_end := goodIn_r _ [58, 2, 59, 60, 61, 62, 63, 64, 65, 7, 66, 3, 23, 24, 25, 26, 27, 1, 78, 79, 80, 81, 82, 83, 84, 85, 86] (by decide +kernel) (by decide +kernel)
set_option maxRecDepth 20000 in
theorem gX4_counted_X4_end : GoodIn wsX4_counted (wsV RX4 84 RX4 yX4_end wsX4_end) := goodIn_app (goodIn_of _ (by decide +kernel)) ggX4_counted_X4_end
set_option maxRecDepth 20000 in
theorem ggX4_counted_X4_highest : GoodIn wsX4_counted wsX4_highest := goodIn_r _ [70, 71, 72, 61, 73, 59, 60, 62, 55, 56, 57, 7, 58, 2, 63, 64, 65, 66, 3, 23, 24, 25, 26, 27, 1, 32, 33, 34, 35, 36, 37, 38, 39, 40, 41, 17, 22, 42, 43, 44, 45, 46, 47, 48, 49, 50, 51, 78, 79, 80, 81, 82, 83, 84, 85, 86] (by decide +kernel) (by decide +kernel)
set_option maxRecDepth 20000 in
theorem gX4_counted_X4_highest : GoodIn wsX4_counted (wsV RX4 123 RX4 yX4_highest wsX4_highest) := goodIn_app (goodIn_of _ (by decide +kernel)) ggX4_counted_X4_highest
set_option maxRecDepth 20000 in
theorem ggX4_counted_X4_isTaken : GoodIn wsX4_counted wsX4_isTaken := goodIn_r _ [77, 2, 22, 78, 79, 80, 81, 82, 83, 84, 85, 86] (by decide +kernel) (by decide +kernel)
set_option maxRecDepth 20000 in
theorem gX4_counted_X4_isTaken : GoodIn wsX4_counted (wsV RX4 126 RX4 yX4_isTaken wsX4_isTaken) := goodIn_app (goodIn_of _ (by decide +kernel)) ggX4_counted_X4_isTaken
theorem dX4_counted_0 : decode cX4_counted 0 = .ok (.iconst 0, 1) := by decide +kernel
theorem dX4_counted_1 : decode cX4_counted 1 = .ok (.istore_n 2, 1) := by decide +kernel
theorem dX4_counted_2 : decode cX4_counted 2 = .ok (.iload_n 1, 1) := by decide +kernel
theorem dX4_counted_3 : decode cX4_counted 3 = .ok (.tableswitch 89 0 5 #[37, 42, 47, 74, 79, 84], 37) := by decide +kernel
theorem dX4_counted_40 : decode cX4_counted 40 = .ok (.aload_n 0, 1) := by decide +kernel
theorem dX4_counted_41 : decode cX4_counted 41 = .ok (.getfield 7, 3) := by decide +kernel
theorem dX4_counted_44 : decode cX4_counted 44 = .ok (.ireturn, 1) := by decide +kernel
theorem dX4_counted_45 : decode cX4_counted 45 = .ok (.aload_n 0, 1) := by decide +kernel
theorem dX4_counted_46 : decode cX4_counted 46 = .ok (.getfield 39, 3) := by decide +kernel
theorem dX4_counted_49 : decode cX4_counted 49 = .ok (.ireturn, 1) := by decide +kernel
theorem dX4_counted_50 : decode cX4_counted 50 = .ok (.iconst 0, 1) := by decide +kernel
theorem dX4_counted_51 : decode cX4_counted 51 = .ok (.istore_n 3, 1) := by decide +kernel
theorem dX4_counted_52 : decode cX4_counted 52 = .ok (.iload_n 3, 1) := by decide +kernel
theorem dX4_counted_53 : decode cX4_counted 53 = .ok (.aload_n 0, 1) := by decide +kernel
theorem dX4_counted_54 : decode cX4_counted 54 = .ok (.getfield 39, 3) := by decide +kernel
theorem dX4_counted_57 : decode cX4_counted 57 = .ok (.if_icmp .ge 18, 3) := by decide +kernel
theorem dX4_counted_60 : decode cX4_counted 60 = .ok (.iload_n 2, 1) := by decide +kernel
theorem dX4_counted_61 : decode cX4_counted 61 = .ok (.aload_n 0, 1) := by decide +kernel
theorem dX4_counted_62 : decode cX4_counted 62 = .ok (.getfield 23, 3) := by decide +kernel
theorem dX4_counted_65 : decode cX4_counted 65 = .ok (.iload_n 3, 1) := by decide +kernel
theorem dX4_counted_66 : decode cX4_counted 66 = .ok (.iaload, 1) := by decide +kernel
theorem dX4_counted_67 : decode cX4_counted 67 = .ok (.iadd, 1) := by decide +kernel
theorem dX4_counted_68 : decode cX4_counted 68 = .ok (.istore_n 2, 1) := by decide +kernel
theorem dX4_counted_69 : decode cX4_counted 69 = .ok (.iinc 3 1, 3) := by decide +kernel
theorem dX4_counted_72 : decode cX4_counted 72 = .ok (.goto (-20), 3) := by decide +kernel
theorem dX4_counted_75 : decode cX4_counted 75 = .ok (.iload_n 2, 1) := by decide +kernel
theorem dX4_counted_76 : decode cX4_counted 76 = .ok (.ireturn, 1) := by decide +kernel
theorem dX4_counted_77 : decode cX4_counted 77 = .ok (.aload_n 0, 1) := by decide +kernel
theorem dX4_counted_78 : decode cX4_counted 78 = .ok (.invokevirtual 120, 3) := by decide +kernel
theorem dX4_counted_81 : decode cX4_counted 81 = .ok (.ireturn, 1) := by decide +kernel
theorem dX4_counted_82 : decode cX4_counted 82 = .ok (.aload_n 0, 1) := by decide +kernel
theorem dX4_counted_83 : decode cX4_counted 83 = .ok (.invokevirtual 84, 3) := by decide +kernel
theorem dX4_counted_86 : decode cX4_counted 86 = .ok (.ireturn, 1) := by decide +kernel
theorem dX4_counted_87 : decode cX4_counted 87 = .ok (.aload_n 0, 1) := by decide +kernel
theorem dX4_counted_88 : decode cX4_counted 88 = .ok (.invokevirtual 123, 3) := by decide +kernel
theorem dX4_counted_91 : decode cX4_counted 91 = .ok (.ireturn, 1) := by decide +kernel
theorem dX4_counted_92 : decode cX4_counted 92 = .ok (.iconst 0, 1) := by decide +kernel
theorem dX4_counted_93 : decode cX4_counted 93 = .ok (.istore_n 3, 1) := by decide +kernel
theorem dX4_counted_94 : decode cX4_counted 94 = .ok (.iload_n 3, 1) := by decide +kernel
theorem dX4_counted_95 : decode cX4_counted 95 = .ok (.aload_n 0, 1) := by decide +kernel
theorem dX4_counted_96 : decode cX4_counted 96 = .ok (.getfield 7, 3) := by decide +kernel
theorem dX4_counted_99 : decode cX4_counted 99 = .ok (.if_icmp .ge 25, 3) := by decide +kernel
theorem dX4_counted_102 : decode cX4_counted 102 = .ok (.iload_n 2, 1) := by decide +kernel
theorem dX4_counted_103 : decode cX4_counted 103 = .ok (.aload_n 0, 1) := by decide +kernel
theorem dX4_counted_104 : decode cX4_counted 104 = .ok (.iload_n 3, 1) := by decide +kernel
theorem dX4_counted_105 : decode cX4_counted 105 = .ok (.invokevirtual 126, 3) := by decide +kernel
theorem dX4_counted_108 : decode cX4_counted 108 = .ok (.ifCond .eq 7, 3) := by decide +kernel
theorem dX4_counted_111 : decode cX4_counted 111 = .ok (.iconst 0, 1) := by decide +kernel
theorem dX4_counted_112 : decode cX4_counted 112 = .ok (.goto 4, 3) := by decide +kernel
theorem dX4_counted_115 : decode cX4_counted 115 = .ok (.iconst 1, 1) := by decide +kernel
theorem dX4_counted_116 : decode cX4_counted 116 = .ok (.iadd, 1) := by decide +kernel
theorem dX4_counted_117 : decode cX4_counted 117 = .ok (.istore_n 2, 1) := by decide +kernel
theorem dX4_counted_118 : decode cX4_counted 118 = .ok (.iinc 3 1, 3) := by decide +kernel
theorem dX4_counted_121 : decode cX4_counted 121 = .ok (.goto (-27), 3) := by decide +kernel
theorem dX4_counted_124 : decode cX4_counted 124 = .ok (.iload_n 2, 1) := by decide +kernel
theorem dX4_counted_125 : decode cX4_counted 125 = .ok (.ireturn, 1) := by decide +kernel
set_option maxRecDepth 20000 in
theorem ggX4_count_X4_isIn : GoodIn wsX4_count wsX4_isIn := goodIn_r _ [5] (by decide +kernel) (by decide +kernel)
set_option maxRecDepth 20000 in
theorem gX4_count_X4_isIn : GoodIn wsX4_count (va_wsS RX4 35 yX4_isIn wsX4_isIn) := goodIn_app (goodIn_of _ (by decide +kernel)) ggX4_count_X4_isIn
set_option maxRecDepth 20000 in
theorem ggX4_count_X4_counted : GoodIn wsX4_count wsX4_counted := goodIn_r _ [9, 10, 11, 12, 13, 14, 15, 4, 16, 17, 18, 19, 20, 21, 22, 23, 24, 25, 26, 27, 28, 29, 30, 31, 32, 33, 34, 35, 36, 37, 38, 39, 40, 41, 42, 43, 44, 45, 46, 47, 48, 49, 50, 51, 52, 53, 54, 55, 56, 57, 58, 59, 60, 61, 62, 63, 64, 65, 66, 67, 68, 69, 70, 71, 72, 73, 74, 75, 76, 77, 78, 79, 80, 81, 82, 83, 84, 85, 90, 91, 92, 93, 94, 95, 96, 97, 98] (by decide +kernel) (by decide +kernel)
set_option maxRecDepth 20000 in
theorem gX4_count_X4_counted : GoodIn wsX4_count (wsV RX4 129 RX4 yX4_counted wsX4_counted) := goodIn_app (goodIn_of _ (by decide +kernel)) ggX4_count_X4_counted
set_option maxRecDepth 20000 in
theorem ggX4_count_X4_no : GoodIn wsX4_count wsX4_no := goodIn_r _ [89, 1, 90, 91, 92, 93, 94, 95, 96, 97, 98] (by decide +kernel) (by decide +kernel)
set_option maxRecDepth 20000 in
theorem gX4_count_X4_no : GoodIn wsX4_count (wsV RX4 91 RX4 yX4_no wsX4_no) := goodIn_app (goodIn_of _ (by decide +kernel)) ggX4_count_X4_no
theorem dX4_count_0 : decode cX4_count 0 = .ok (.aload_n 0, 1) := by decide +kernel
theorem dX4_count_1 : decode cX4_count 1 = .ok (.iconst 0, 1) := by decide +kernel
theorem dX4_count_2 : decode cX4_count 2 = .ok (.putfield 32, 3) := by decide +kernel
theorem dX4_count_5 : decode cX4_count 5 = .ok (.iload_n 1, 1) := by decide +kernel
theorem dX4_count_6 : decode cX4_count 6 = .ok (.iconst 0, 1) := by decide +kernel
theorem dX4_count_7 : decode cX4_count 7 = .ok (.bipush 6, 2) := by decide +kernel
theorem dX4_count_9 : decode cX4_count 9 = .ok (.invokestatic 35, 3) := by decide +kernel
theorem dX4_count_12 : decode cX4_count 12 = .ok (.ifCond .eq 11, 3) := by decide +kernel
theorem dX4_count_15 : decode cX4_count 15 = .ok (.aload_n 0, 1) := by decide +kernel
theorem dX4_count_16 : decode cX4_count 16 = .ok (.iload_n 1, 1) := by decide +kernel
theorem dX4_count_17 : decode cX4_count 17 = .ok (.invokevirtual 129, 3) := by decide +kernel
theorem dX4_count_20 : decode cX4_count 20 = .ok (.goto 8, 3) := by decide +kernel
theorem dX4_count_23 : decode cX4_count 23 = .ok (.aload_n 0, 1) := by decide +kernel
theorem dX4_count_24 : decode cX4_count 24 = .ok (.iconst 1, 1) := by decide +kernel
theorem dX4_count_25 : decode cX4_count 25 = .ok (.invokevirtual 91, 3) := by decide +kernel
theorem dX4_count_28 : decode cX4_count 28 = .ok (.ireturn, 1) := by decide +kernel
set_option maxRecDepth 20000 in
theorem ggX4_alike_X4_isCode : GoodIn wsX4_alike wsX4_isCode := goodIn_r _ [6, 7, 8, 9, 5, 10, 33, 34, 35, 36, 37, 38, 39, 40, 41] (by decide +kernel) (by decide +kernel)
set_option maxRecDepth 20000 in
theorem gX4_alike_X4_isCode : GoodIn wsX4_alike (wsV RX4 94 RX4 yX4_isCode wsX4_isCode) := goodIn_app (goodIn_of _ (by decide +kernel)) ggX4_alike_X4_isCode
set_option maxRecDepth 20000 in
theorem ggX4_alike_X4_no : GoodIn wsX4_alike wsX4_no := goodIn_r _ [14, 1, 33, 34, 35, 36, 37, 38, 39, 40, 41] (by decide +kernel) (by decide +kernel)
set_option maxRecDepth 20000 in
theorem gX4_alike_X4_no : GoodIn wsX4_alike (wsV RX4 91 RX4 yX4_no wsX4_no) := goodIn_app (goodIn_of _ (by decide +kernel)) ggX4_alike_X4_no
set_option maxRecDepth 20000 in
theorem ggX4_alike_X4_likeness : GoodIn wsX4_alike wsX4_likeness := goodIn_r _ [18, 7, 19, 20, 21, 22, 23, 24, 5, 25, 26, 27, 28, 29, 30, 31, 32, 33, 34, 35, 36, 37, 38, 39, 40, 41] (by decide +kernel) (by decide +kernel)
set_option maxRecDepth 20000 in
theorem gX4_alike_X4_likeness : GoodIn wsX4_alike (wsV RX4 132 RX4 yX4_likeness wsX4_likeness) := goodIn_app (goodIn_of _ (by decide +kernel)) ggX4_alike_X4_likeness
theorem dX4_alike_0 : decode cX4_alike 0 = .ok (.aload_n 0, 1) := by decide +kernel
theorem dX4_alike_1 : decode cX4_alike 1 = .ok (.iconst 0, 1) := by decide +kernel
theorem dX4_alike_2 : decode cX4_alike 2 = .ok (.putfield 32, 3) := by decide +kernel
theorem dX4_alike_5 : decode cX4_alike 5 = .ok (.aload_n 0, 1) := by decide +kernel
theorem dX4_alike_6 : decode cX4_alike 6 = .ok (.iload_n 1, 1) := by decide +kernel
theorem dX4_alike_7 : decode cX4_alike 7 = .ok (.invokevirtual 94, 3) := by decide +kernel
theorem dX4_alike_10 : decode cX4_alike 10 = .ok (.ifCond .eq 11, 3) := by decide +kernel
theorem dX4_alike_13 : decode cX4_alike 13 = .ok (.aload_n 0, 1) := by decide +kernel
theorem dX4_alike_14 : decode cX4_alike 14 = .ok (.iload_n 2, 1) := by decide +kernel
theorem dX4_alike_15 : decode cX4_alike 15 = .ok (.invokevirtual 94, 3) := by decide +kernel
theorem dX4_alike_18 : decode cX4_alike 18 = .ok (.ifCond .ne 9, 3) := by decide +kernel
theorem dX4_alike_21 : decode cX4_alike 21 = .ok (.aload_n 0, 1) := by decide +kernel
theorem dX4_alike_22 : decode cX4_alike 22 = .ok (.iconst 1, 1) := by decide +kernel
theorem dX4_alike_23 : decode cX4_alike 23 = .ok (.invokevirtual 91, 3) := by decide +kernel
theorem dX4_alike_26 : decode cX4_alike 26 = .ok (.ireturn, 1) := by decide +kernel
theorem dX4_alike_27 : decode cX4_alike 27 = .ok (.aload_n 0, 1) := by decide +kernel
theorem dX4_alike_28 : decode cX4_alike 28 = .ok (.iload_n 3, 1) := by decide +kernel
theorem dX4_alike_29 : decode cX4_alike 29 = .ok (.invokevirtual 94, 3) := by decide +kernel
theorem dX4_alike_32 : decode cX4_alike 32 = .ok (.ifCond .eq 13, 3) := by decide +kernel
theorem dX4_alike_35 : decode cX4_alike 35 = .ok (.aload_n 0, 1) := by decide +kernel
theorem dX4_alike_36 : decode cX4_alike 36 = .ok (.iload_n 1, 1) := by decide +kernel
theorem dX4_alike_37 : decode cX4_alike 37 = .ok (.iload_n 2, 1) := by decide +kernel
theorem dX4_alike_38 : decode cX4_alike 38 = .ok (.iload_n 3, 1) := by decide +kernel
theorem dX4_alike_39 : decode cX4_alike 39 = .ok (.invokevirtual 132, 3) := by decide +kernel
theorem dX4_alike_42 : decode cX4_alike 42 = .ok (.goto 8, 3) := by decide +kernel
theorem dX4_alike_45 : decode cX4_alike 45 = .ok (.aload_n 0, 1) := by decide +kernel
theorem dX4_alike_46 : decode cX4_alike 46 = .ok (.iconst 2, 1) := by decide +kernel
theorem dX4_alike_47 : decode cX4_alike 47 = .ok (.invokevirtual 91, 3) := by decide +kernel
theorem dX4_alike_50 : decode cX4_alike 50 = .ok (.ireturn, 1) := by decide +kernel
set_option maxRecDepth 20000 in
theorem ggX4_shift_X4_isCode : GoodIn wsX4_shift wsX4_isCode := goodIn_r _ [7, 2, 8, 9, 6, 10, 33, 34, 35, 36, 37, 38, 39, 40, 41] (by decide +kernel) (by decide +kernel)
set_option maxRecDepth 20000 in
theorem gX4_shift_X4_isCode : GoodIn wsX4_shift (wsV RX4 94 RX4 yX4_isCode wsX4_isCode) := goodIn_app (goodIn_of _ (by decide +kernel)) ggX4_shift_X4_isCode
set_option maxRecDepth 20000 in
theorem ggX4_shift_X4_no : GoodIn wsX4_shift wsX4_no := goodIn_r _ [14, 1, 33, 34, 35, 36, 37, 38, 39, 40, 41] (by decide +kernel) (by decide +kernel)
set_option maxRecDepth 20000 in
theorem gX4_shift_X4_no : GoodIn wsX4_shift (wsV RX4 91 RX4 yX4_no wsX4_no) := goodIn_app (goodIn_of _ (by decide +kernel)) ggX4_shift_X4_no
set_option maxRecDepth 20000 in
theorem ggX4_shift_X4_likeness : GoodIn wsX4_shift wsX4_likeness := goodIn_r _ [18, 2, 19, 20, 21, 22, 23, 24, 6, 25, 26, 27, 28, 29, 30, 31, 32, 33, 34, 35, 36, 37, 38, 39, 40, 41] (by decide +kernel) (by decide +kernel)
set_option maxRecDepth 20000 in
theorem gX4_shift_X4_likeness : GoodIn wsX4_shift (wsV RX4 132 RX4 yX4_likeness wsX4_likeness) := goodIn_app (goodIn_of _ (by decide +kernel)) ggX4_shift_X4_likeness
theorem dX4_shift_0 : decode cX4_shift 0 = .ok (.aload_n 0, 1) := by decide +kernel
theorem dX4_shift_1 : decode cX4_shift 1 = .ok (.iconst 0, 1) := by decide +kernel
theorem dX4_shift_2 : decode cX4_shift 2 = .ok (.putfield 32, 3) := by decide +kernel
theorem dX4_shift_5 : decode cX4_shift 5 = .ok (.aload_n 0, 1) := by decide +kernel
theorem dX4_shift_6 : decode cX4_shift 6 = .ok (.iload_n 1, 1) := by decide +kernel
theorem dX4_shift_7 : decode cX4_shift 7 = .ok (.invokevirtual 94, 3) := by decide +kernel
theorem dX4_shift_10 : decode cX4_shift 10 = .ok (.ifCond .eq 11, 3) := by decide +kernel
theorem dX4_shift_13 : decode cX4_shift 13 = .ok (.aload_n 0, 1) := by decide +kernel
theorem dX4_shift_14 : decode cX4_shift 14 = .ok (.iload_n 2, 1) := by decide +kernel
theorem dX4_shift_15 : decode cX4_shift 15 = .ok (.invokevirtual 94, 3) := by decide +kernel
theorem dX4_shift_18 : decode cX4_shift 18 = .ok (.ifCond .ne 9, 3) := by decide +kernel
theorem dX4_shift_21 : decode cX4_shift 21 = .ok (.aload_n 0, 1) := by decide +kernel
theorem dX4_shift_22 : decode cX4_shift 22 = .ok (.iconst 1, 1) := by decide +kernel
theorem dX4_shift_23 : decode cX4_shift 23 = .ok (.invokevirtual 91, 3) := by decide +kernel
theorem dX4_shift_26 : decode cX4_shift 26 = .ok (.ireturn, 1) := by decide +kernel
theorem dX4_shift_27 : decode cX4_shift 27 = .ok (.iconst 0, 1) := by decide +kernel
theorem dX4_shift_28 : decode cX4_shift 28 = .ok (.istore_n 3, 1) := by decide +kernel
theorem dX4_shift_29 : decode cX4_shift 29 = .ok (.iconst 1, 1) := by decide +kernel
theorem dX4_shift_30 : decode cX4_shift 30 = .ok (.istore 4, 2) := by decide +kernel
theorem dX4_shift_32 : decode cX4_shift 32 = .ok (.iload 4, 2) := by decide +kernel
theorem dX4_shift_34 : decode cX4_shift 34 = .ok (.aload_n 0, 1) := by decide +kernel
theorem dX4_shift_35 : decode cX4_shift 35 = .ok (.getfield 7, 3) := by decide +kernel
theorem dX4_shift_38 : decode cX4_shift 38 = .ok (.if_icmp .ge 30, 3) := by decide +kernel
theorem dX4_shift_41 : decode cX4_shift 41 = .ok (.aload_n 0, 1) := by decide +kernel
theorem dX4_shift_42 : decode cX4_shift 42 = .ok (.iload_n 1, 1) := by decide +kernel
theorem dX4_shift_43 : decode cX4_shift 43 = .ok (.iload_n 2, 1) := by decide +kernel
theorem dX4_shift_44 : decode cX4_shift 44 = .ok (.iload 4, 2) := by decide +kernel
