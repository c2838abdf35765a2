theorem dX6_links_25 : decode cX6_links 25 = .ok (.goto (-21), 3) := by decide +kernel
theorem dX6_links_28 : decode cX6_links 28 = .ok (.iload_n 1, 1) := by decide +kernel
theorem dX6_links_29 : decode cX6_links 29 = .ok (.ireturn, 1) := by decide +kernel
theorem dX6_shaken_0 : decode cX6_shaken 0 = .ok (.iconst 0, 1) := by decide +kernel
theorem dX6_shaken_1 : decode cX6_shaken 1 = .ok (.istore_n 1, 1) := by decide +kernel
theorem dX6_shaken_2 : decode cX6_shaken 2 = .ok (.iconst 0, 1) := by decide +kernel
theorem dX6_shaken_3 : decode cX6_shaken 3 = .ok (.istore_n 2, 1) := by decide +kernel
theorem dX6_shaken_4 : decode cX6_shaken 4 = .ok (.iload_n 2, 1) := by decide +kernel
theorem dX6_shaken_5 : decode cX6_shaken 5 = .ok (.bipush 64, 2) := by decide +kernel
theorem dX6_shaken_7 : decode cX6_shaken 7 = .ok (.if_icmp .ge 22, 3) := by decide +kernel
theorem dX6_shaken_10 : decode cX6_shaken 10 = .ok (.iload_n 1, 1) := by decide +kernel
theorem dX6_shaken_11 : decode cX6_shaken 11 = .ok (.aload_n 0, 1) := by decide +kernel
theorem dX6_shaken_12 : decode cX6_shaken 12 = .ok (.getfield 7, 3) := by decide +kernel
theorem dX6_shaken_15 : decode cX6_shaken 15 = .ok (.sipush 161, 3) := by decide +kernel
theorem dX6_shaken_18 : decode cX6_shaken 18 = .ok (.iload_n 2, 1) := by decide +kernel
theorem dX6_shaken_19 : decode cX6_shaken 19 = .ok (.iadd, 1) := by decide +kernel
theorem dX6_shaken_20 : decode cX6_shaken 20 = .ok (.iaload, 1) := by decide +kernel
theorem dX6_shaken_21 : decode cX6_shaken 21 = .ok (.iadd, 1) := by decide +kernel
theorem dX6_shaken_22 : decode cX6_shaken 22 = .ok (.istore_n 1, 1) := by decide +kernel
theorem dX6_shaken_23 : decode cX6_shaken 23 = .ok (.iinc 2 1, 3) := by decide +kernel
theorem dX6_shaken_26 : decode cX6_shaken 26 = .ok (.goto (-22), 3) := by decide +kernel
theorem dX6_shaken_29 : decode cX6_shaken 29 = .ok (.iload_n 1, 1) := by decide +kernel
theorem dX6_shaken_30 : decode cX6_shaken 30 = .ok (.ireturn, 1) := by decide +kernel
set_option maxRecDepth 20000 in
theorem ggX6_greatest_X6_isPossible : GoodIn wsX6_greatest wsX6_isPossible := goodIn_r _ [5, 6, 7, 8, 4, 9, 10, 11, 12, 13, 14, 15, 16, 17, 18, 19, 20, 21, 22, 23, 24, 25, 26, 27, 28, 29, 30, 31, 32, 33, 34, 35, 36] (by decide +kernel) (by decide +kernel)
set_option maxRecDepth 20000 in
theorem gX6_greatest_X6_isPossible : GoodIn wsX6_greatest (wsV RX6 68 RX6 yX6_isPossible wsX6_isPossible) := goodIn_app (goodIn_of _ (by decide +kernel)) ggX6_greatest_X6_isPossible
theorem dX6_greatest_0 : decode cX6_greatest 0 = .ok (.iconst 0, 1) := by decide +kernel
theorem dX6_greatest_1 : decode cX6_greatest 1 = .ok (.istore_n 1, 1) := by decide +kernel
theorem dX6_greatest_2 : decode cX6_greatest 2 = .ok (.iconst 0, 1) := by decide +kernel
theorem dX6_greatest_3 : decode cX6_greatest 3 = .ok (.istore_n 2, 1) := by decide +kernel
theorem dX6_greatest_4 : decode cX6_greatest 4 = .ok (.iload_n 2, 1) := by decide +kernel
theorem dX6_greatest_5 : decode cX6_greatest 5 = .ok (.bipush 8, 2) := by decide +kernel
theorem dX6_greatest_7 : decode cX6_greatest 7 = .ok (.if_icmp .ge 92, 3) := by decide +kernel
theorem dX6_greatest_10 : decode cX6_greatest 10 = .ok (.iconst 0, 1) := by decide +kernel
theorem dX6_greatest_11 : decode cX6_greatest 11 = .ok (.istore_n 3, 1) := by decide +kernel
theorem dX6_greatest_12 : decode cX6_greatest 12 = .ok (.iconst 0, 1) := by decide +kernel
theorem dX6_greatest_13 : decode cX6_greatest 13 = .ok (.istore 4, 2) := by decide +kernel
theorem dX6_greatest_15 : decode cX6_greatest 15 = .ok (.iconst 0, 1) := by decide +kernel
theorem dX6_greatest_16 : decode cX6_greatest 16 = .ok (.istore 5, 2) := by decide +kernel
theorem dX6_greatest_18 : decode cX6_greatest 18 = .ok (.iload 5, 2) := by decide +kernel
theorem dX6_greatest_20 : decode cX6_greatest 20 = .ok (.bipush 8, 2) := by decide +kernel
theorem dX6_greatest_22 : decode cX6_greatest 22 = .ok (.if_icmp .ge 47, 3) := by decide +kernel
theorem dX6_greatest_25 : decode cX6_greatest 25 = .ok (.iload_n 3, 1) := by decide +kernel
theorem dX6_greatest_26 : decode cX6_greatest 26 = .ok (.aload_n 0, 1) := by decide +kernel
theorem dX6_greatest_27 : decode cX6_greatest 27 = .ok (.iload_n 2, 1) := by decide +kernel
theorem dX6_greatest_28 : decode cX6_greatest 28 = .ok (.iload 5, 2) := by decide +kernel
theorem dX6_greatest_30 : decode cX6_greatest 30 = .ok (.invokevirtual 68, 3) := by decide +kernel
theorem dX6_greatest_33 : decode cX6_greatest 33 = .ok (.ifCond .eq 7, 3) := by decide +kernel
theorem dX6_greatest_36 : decode cX6_greatest 36 = .ok (.iconst 1, 1) := by decide +kernel
theorem dX6_greatest_37 : decode cX6_greatest 37 = .ok (.goto 4, 3) := by decide +kernel
theorem dX6_greatest_40 : decode cX6_greatest 40 = .ok (.iconst 0, 1) := by decide +kernel
theorem dX6_greatest_41 : decode cX6_greatest 41 = .ok (.iadd, 1) := by decide +kernel
theorem dX6_greatest_42 : decode cX6_greatest 42 = .ok (.istore_n 3, 1) := by decide +kernel
theorem dX6_greatest_43 : decode cX6_greatest 43 = .ok (.iload 4, 2) := by decide +kernel
theorem dX6_greatest_45 : decode cX6_greatest 45 = .ok (.aload_n 0, 1) := by decide +kernel
theorem dX6_greatest_46 : decode cX6_greatest 46 = .ok (.iload 5, 2) := by decide +kernel
theorem dX6_greatest_48 : decode cX6_greatest 48 = .ok (.iload_n 2, 1) := by decide +kernel
theorem dX6_greatest_49 : decode cX6_greatest 49 = .ok (.invokevirtual 68, 3) := by decide +kernel
theorem dX6_greatest_52 : decode cX6_greatest 52 = .ok (.ifCond .eq 7, 3) := by decide +kernel
theorem dX6_greatest_55 : decode cX6_greatest 55 = .ok (.iconst 1, 1) := by decide +kernel
theorem dX6_greatest_56 : decode cX6_greatest 56 = .ok (.goto 4, 3) := by decide +kernel
theorem dX6_greatest_59 : decode cX6_greatest 59 = .ok (.iconst 0, 1) := by decide +kernel
theorem dX6_greatest_60 : decode cX6_greatest 60 = .ok (.iadd, 1) := by decide +kernel
theorem dX6_greatest_61 : decode cX6_greatest 61 = .ok (.istore 4, 2) := by decide +kernel
theorem dX6_greatest_63 : decode cX6_greatest 63 = .ok (.iinc 5 1, 3) := by decide +kernel
theorem dX6_greatest_66 : decode cX6_greatest 66 = .ok (.goto (-48), 3) := by decide +kernel
theorem dX6_greatest_69 : decode cX6_greatest 69 = .ok (.iload_n 3, 1) := by decide +kernel
theorem dX6_greatest_70 : decode cX6_greatest 70 = .ok (.iload_n 1, 1) := by decide +kernel
theorem dX6_greatest_71 : decode cX6_greatest 71 = .ok (.if_icmp .le 7, 3) := by decide +kernel
theorem dX6_greatest_74 : decode cX6_greatest 74 = .ok (.iload_n 3, 1) := by decide +kernel
theorem dX6_greatest_75 : decode cX6_greatest 75 = .ok (.goto 4, 3) := by decide +kernel
theorem dX6_greatest_78 : decode cX6_greatest 78 = .ok (.iload_n 1, 1) := by decide +kernel
theorem dX6_greatest_79 : decode cX6_greatest 79 = .ok (.istore_n 1, 1) := by decide +kernel
theorem dX6_greatest_80 : decode cX6_greatest 80 = .ok (.iload 4, 2) := by decide +kernel
theorem dX6_greatest_82 : decode cX6_greatest 82 = .ok (.iload_n 1, 1) := by decide +kernel
theorem dX6_greatest_83 : decode cX6_greatest 83 = .ok (.if_icmp .le 8, 3) := by decide +kernel
theorem dX6_greatest_86 : decode cX6_greatest 86 = .ok (.iload 4, 2) := by decide +kernel
theorem dX6_greatest_88 : decode cX6_greatest 88 = .ok (.goto 4, 3) := by decide +kernel
theorem dX6_greatest_91 : decode cX6_greatest 91 = .ok (.iload_n 1, 1) := by decide +kernel
theorem dX6_greatest_92 : decode cX6_greatest 92 = .ok (.istore_n 1, 1) := by decide +kernel
theorem dX6_greatest_93 : decode cX6_greatest 93 = .ok (.iinc 2 1, 3) := by decide +kernel
theorem dX6_greatest_96 : decode cX6_greatest 96 = .ok (.goto (-92), 3) := by decide +kernel
theorem dX6_greatest_99 : decode cX6_greatest 99 = .ok (.iload_n 1, 1) := by decide +kernel
theorem dX6_greatest_100 : decode cX6_greatest 100 = .ok (.ireturn, 1) := by decide +kernel
set_option maxRecDepth 20000 in
theorem ggX6_count_X6_openMany : GoodIn wsX6_count wsX6_openMany := goodIn_r _ [9, 2, 73, 74, 75, 76, 77, 78, 79, 80, 81, 82, 83, 84, 85, 86, 87, 88, 89, 90] (by decide +kernel) (by decide +kernel)
set_option maxRecDepth 20000 in
theorem gX6_count_X6_openMany : GoodIn wsX6_count (wsV RX6 95 RX6 yX6_openMany wsX6_openMany) := goodIn_app (goodIn_of _ (by decide +kernel)) ggX6_count_X6_openMany
set_option maxRecDepth 20000 in
theorem ggX6_count_X6_possibleMany : GoodIn wsX6_count wsX6_possibleMany := goodIn_r _ [13, 14, 15, 16, 8, 17, 18, 19, 20, 21, 2, 22, 23, 24, 25, 26, 27, 28, 29, 73, 74, 75, 76, 77, 78, 79, 80, 81, 82, 83, 84, 85, 86, 87, 88, 89, 90] (by decide +kernel) (by decide +kernel)
set_option maxRecDepth 20000 in
theorem gX6_count_X6_possibleMany : GoodIn wsX6_count (wsV RX6 160 RX6 yX6_possibleMany wsX6_possibleMany) := goodIn_app (goodIn_of _ (by decide +kernel)) ggX6_count_X6_possibleMany
set_option maxRecDepth 20000 in
theorem ggX6_count_X6_feuds : GoodIn wsX6_count wsX6_feuds := goodIn_r _ [33, 2, 73, 74, 75, 76, 77, 78, 79, 80, 81, 82, 83, 84, 85, 86, 87, 88, 89, 90] (by decide +kernel) (by decide +kernel)
set_option maxRecDepth 20000 in
theorem gX6_count_X6_feuds : GoodIn wsX6_count (wsV RX6 163 RX6 yX6_feuds wsX6_feuds) := goodIn_app (goodIn_of _ (by decide +kernel)) ggX6_count_X6_feuds
set_option maxRecDepth 20000 in
theorem ggX6_count_X6_links : GoodIn wsX6_count wsX6_links := goodIn_r _ [37, 2, 73, 74, 75, 76, 77, 78, 79, 80, 81, 82, 83, 84, 85, 86, 87, 88, 89, 90] (by decide +kernel) (by decide +kernel)
set_option maxRecDepth 20000 in
theorem gX6_count_X6_links : GoodIn wsX6_count (wsV RX6 166 RX6 yX6_links wsX6_links) := goodIn_app (goodIn_of _ (by decide +kernel)) ggX6_count_X6_links
set_option maxRecDepth 20000 in
theorem ggX6_count_X6_shaken : GoodIn wsX6_count wsX6_shaken := goodIn_r _ [41, 2, 73, 74, 75, 76, 77, 78, 79, 80, 81, 82, 83, 84, 85, 86, 87, 88, 89, 90] (by decide +kernel) (by decide +kernel)
set_option maxRecDepth 20000 in
theorem gX6_count_X6_shaken : GoodIn wsX6_count (wsV RX6 169 RX6 yX6_shaken wsX6_shaken) := goodIn_app (goodIn_of _ (by decide +kernel)) ggX6_count_X6_shaken
set_option maxRecDepth 20000 in
theorem ggX6_count_X6_matches : GoodIn wsX6_count wsX6_matches := goodIn_r _ [45, 46, 47, 48, 49, 8, 50, 51, 14, 15, 16, 17, 18, 19, 20, 21, 2, 22, 23, 24, 25, 26, 27, 28, 29, 52, 53, 54, 55, 56, 57, 58, 59, 60, 61, 62, 63, 64, 65, 66, 67, 68, 73, 74, 75, 76, 77, 78, 79, 80, 81, 82, 83, 84, 85, 86, 87, 88, 89, 90] (by decide +kernel) (by decide +kernel)
set_option maxRecDepth 20000 in
theorem gX6_count_X6_matches : GoodIn wsX6_count (wsV RX6 101 RX6 yX6_matches wsX6_matches) := goodIn_app (goodIn_of _ (by decide +kernel)) ggX6_count_X6_matches
set_option maxRecDepth 20000 in
theorem ggX6_count_X6_greatest : GoodIn wsX6_count wsX6_greatest := goodIn_r _ [72, 14, 15, 16, 8, 17, 18, 19, 20, 21, 2, 22, 23, 24, 25, 26, 27, 28, 29, 73, 74, 75, 76, 77, 78, 79, 80, 81, 82, 83, 84, 85, 86, 87, 88, 89, 90] (by decide +kernel) (by decide +kernel)
set_option maxRecDepth 20000 in
theorem gX6_count_X6_greatest : GoodIn wsX6_count (wsV RX6 172 RX6 yX6_greatest wsX6_greatest) := goodIn_app (goodIn_of _ (by decide +kernel)) ggX6_count_X6_greatest
theorem dX6_count_0 : decode cX6_count 0 = .ok (.aload_n 0, 1) := by decide +kernel
theorem dX6_count_1 : decode cX6_count 1 = .ok (.iconst 0, 1) := by decide +kernel
theorem dX6_count_2 : decode cX6_count 2 = .ok (.putfield 43, 3) := by decide +kernel
theorem dX6_count_5 : decode cX6_count 5 = .ok (.iload_n 1, 1) := by decide +kernel
theorem dX6_count_6 : decode cX6_count 6 = .ok (.tableswitch 106 0 9 #[54, 59, 64, 69, 74, 81, 86, 91, 96, 101], 54) := by decide +kernel
theorem dX6_count_60 : decode cX6_count 60 = .ok (.aload_n 0, 1) := by decide +kernel
theorem dX6_count_61 : decode cX6_count 61 = .ok (.invokevirtual 95, 3) := by decide +kernel
theorem dX6_count_64 : decode cX6_count 64 = .ok (.ireturn, 1) := by decide +kernel
theorem dX6_count_65 : decode cX6_count 65 = .ok (.aload_n 0, 1) := by decide +kernel
theorem dX6_count_66 : decode cX6_count 66 = .ok (.invokevirtual 160, 3) := by decide +kernel
theorem dX6_count_69 : decode cX6_count 69 = .ok (.ireturn, 1) := by decide +kernel
theorem dX6_count_70 : decode cX6_count 70 = .ok (.aload_n 0, 1) := by decide +kernel
theorem dX6_count_71 : decode cX6_count 71 = .ok (.invokevirtual 163, 3) := by decide +kernel
theorem dX6_count_74 : decode cX6_count 74 = .ok (.ireturn, 1) := by decide +kernel
theorem dX6_count_75 : decode cX6_count 75 = .ok (.aload_n 0, 1) := by decide +kernel
theorem dX6_count_76 : decode cX6_count 76 = .ok (.invokevirtual 166, 3) := by decide +kernel
theorem dX6_count_79 : decode cX6_count 79 = .ok (.ireturn, 1) := by decide +kernel
theorem dX6_count_80 : decode cX6_count 80 = .ok (.aload_n 0, 1) := by decide +kernel
theorem dX6_count_81 : decode cX6_count 81 = .ok (.getfield 7, 3) := by decide +kernel
theorem dX6_count_84 : decode cX6_count 84 = .ok (.iconst 0, 1) := by decide +kernel
theorem dX6_count_85 : decode cX6_count 85 = .ok (.iaload, 1) := by decide +kernel
theorem dX6_count_86 : decode cX6_count 86 = .ok (.ireturn, 1) := by decide +kernel
theorem dX6_count_87 : decode cX6_count 87 = .ok (.aload_n 0, 1) := by decide +kernel
theorem dX6_count_88 : decode cX6_count 88 = .ok (.invokevirtual 169, 3) := by decide +kernel
theorem dX6_count_91 : decode cX6_count 91 = .ok (.ireturn, 1) := by decide +kernel
theorem dX6_count_92 : decode cX6_count 92 = .ok (.aload_n 0, 1) := by decide +kernel
theorem dX6_count_93 : decode cX6_count 93 = .ok (.invokevirtual 101, 3) := by decide +kernel
theorem dX6_count_96 : decode cX6_count 96 = .ok (.ireturn, 1) := by decide +kernel
theorem dX6_count_97 : decode cX6_count 97 = .ok (.aload_n 0, 1) := by decide +kernel
theorem dX6_count_98 : decode cX6_count 98 = .ok (.invokevirtual 172, 3) := by decide +kernel
theorem dX6_count_101 : decode cX6_count 101 = .ok (.ireturn, 1) := by decide +kernel
theorem dX6_count_102 : decode cX6_count 102 = .ok (.aload_n 0, 1) := by decide +kernel
theorem dX6_count_103 : decode cX6_count 103 = .ok (.getfield 55, 3) := by decide +kernel
theorem dX6_count_106 : decode cX6_count 106 = .ok (.ireturn, 1) := by decide +kernel
theorem dX6_count_107 : decode cX6_count 107 = .ok (.aload_n 0, 1) := by decide +kernel
theorem dX6_count_108 : decode cX6_count 108 = .ok (.getfield 107, 3) := by decide +kernel
theorem dX6_count_111 : decode cX6_count 111 = .ok (.ireturn, 1) := by decide +kernel
theorem dX6_count_112 : decode cX6_count 112 = .ok (.bipush (-2), 2) := by decide +kernel
theorem dX6_count_114 : decode cX6_count 114 = .ok (.ireturn, 1) := by decide +kernel
set_option maxRecDepth 20000 in
theorem ggX6_doneIn_X6_putAside : GoodIn wsX6_doneIn wsX6_putAside := goodIn_r _ [6, 7, 8, 64, 65, 66, 67, 68, 69, 70, 71, 72, 73, 74, 75, 76, 77, 78, 79, 80, 81] (by decide +kernel) (by decide +kernel)
set_option maxRecDepth 20000 in
theorem gX6_doneIn_X6_putAside : GoodIn wsX6_doneIn (wsV RX6 175 RX6 yX6_putAside wsX6_putAside) := goodIn_app (goodIn_of _ (by decide +kernel)) ggX6_doneIn_X6_putAside
set_option maxRecDepth 20000 in
theorem ggX6_doneIn_X6_openMany : GoodIn wsX6_doneIn wsX6_openMany := goodIn_r _ [12, 8, 64, 65, 66, 67, 68, 69, 70, 71, 72, 73, 74, 75, 76, 77, 78, 79, 80, 81] (by decide +kernel) (by decide +kernel)
set_option maxRecDepth 20000 in
theorem gX6_doneIn_X6_openMany : GoodIn wsX6_doneIn (wsV RX6 95 RX6 yX6_openMany wsX6_openMany) := goodIn_app (goodIn_of _ (by decide +kernel)) ggX6_doneIn_X6_openMany
set_option maxRecDepth 20000 in
theorem ggX6_doneIn_X6_shakes : GoodIn wsX6_doneIn wsX6_shakes := goodIn_r _ [16, 17, 8, 18, 19, 20, 5, 21, 22, 23, 24, 25, 26, 27, 28, 29, 30, 31, 32, 33, 34, 35, 36, 37, 38, 39, 40, 41, 42, 43, 44, 45, 46, 47, 48, 49, 50, 51, 52, 53, 54, 55, 56, 57, 58, 59, 64, 65, 66, 67, 68, 69, 70, 71, 72, 73, 74, 75, 76, 77, 78, 79, 80, 81] (by decide +kernel) (by decide +kernel)
set_option maxRecDepth 20000 in
theorem gX6_doneIn_X6_shakes : GoodIn wsX6_doneIn (wsV RX6 104 RX6 yX6_shakes wsX6_shakes) := goodIn_app (goodIn_of _ (by decide +kernel)) ggX6_doneIn_X6_shakes
set_option maxRecDepth 20000 in
theorem ggX6_doneIn_X6_takeBack : GoodIn wsX6_doneIn wsX6_takeBack := goodIn_r _ [63, 8, 7, 64, 65, 66, 67, 68, 69, 70, 71, 72, 73, 74, 75, 76, 77, 78, 79, 80, 81] (by decide +kernel) (by decide +kernel)
set_option maxRecDepth 20000 in
theorem gX6_doneIn_X6_takeBack : GoodIn wsX6_doneIn (wsV RX6 178 RX6 yX6_takeBack wsX6_takeBack) := goodIn_app (goodIn_of _ (by decide +kernel)) ggX6_doneIn_X6_takeBack
theorem dX6_doneIn_0 : decode cX6_doneIn 0 = .ok (.aload_n 0, 1) := by decide +kernel
theorem dX6_doneIn_1 : decode cX6_doneIn 1 = .ok (.iconst 0, 1) := by decide +kernel
theorem dX6_doneIn_2 : decode cX6_doneIn 2 = .ok (.putfield 43, 3) := by decide +kernel
theorem dX6_doneIn_5 : decode cX6_doneIn 5 = .ok (.aload_n 0, 1) := by decide +kernel
theorem dX6_doneIn_6 : decode cX6_doneIn 6 = .ok (.invokevirtual 175, 3) := by decide +kernel
theorem dX6_doneIn_9 : decode cX6_doneIn 9 = .ok (.iconst 0, 1) := by decide +kernel
theorem dX6_doneIn_10 : decode cX6_doneIn 10 = .ok (.istore_n 1, 1) := by decide +kernel
theorem dX6_doneIn_11 : decode cX6_doneIn 11 = .ok (.iload_n 1, 1) := by decide +kernel
theorem dX6_doneIn_12 : decode cX6_doneIn 12 = .ok (.sipush 200, 3) := by decide +kernel
theorem dX6_doneIn_15 : decode cX6_doneIn 15 = .ok (.if_icmp .ge 21, 3) := by decide +kernel
theorem dX6_doneIn_18 : decode cX6_doneIn 18 = .ok (.aload_n 0, 1) := by decide +kernel
theorem dX6_doneIn_19 : decode cX6_doneIn 19 = .ok (.invokevirtual 95, 3) := by decide +kernel
theorem dX6_doneIn_22 : decode cX6_doneIn 22 = .ok (.ifCond .le 14, 3) := by decide +kernel
theorem dX6_doneIn_25 : decode cX6_doneIn 25 = .ok (.aload_n 0, 1) := by decide +kernel
theorem dX6_doneIn_26 : decode cX6_doneIn 26 = .ok (.invokevirtual 104, 3) := by decide +kernel
theorem dX6_doneIn_29 : decode cX6_doneIn 29 = .ok (.pop, 1) := by decide +kernel
theorem dX6_doneIn_30 : decode cX6_doneIn 30 = .ok (.iinc 1 1, 3) := by decide +kernel
theorem dX6_doneIn_33 : decode cX6_doneIn 33 = .ok (.goto (-22), 3) := by decide +kernel
theorem dX6_doneIn_36 : decode cX6_doneIn 36 = .ok (.aload_n 0, 1) := by decide +kernel
theorem dX6_doneIn_37 : decode cX6_doneIn 37 = .ok (.invokevirtual 95, 3) := by decide +kernel
theorem dX6_doneIn_40 : decode cX6_doneIn 40 = .ok (.ifCond .le 8, 3) := by decide +kernel
theorem dX6_doneIn_43 : decode cX6_doneIn 43 = .ok (.bipush (-5), 2) := by decide +kernel
theorem dX6_doneIn_45 : decode cX6_doneIn 45 = .ok (.goto 4, 3) := by decide +kernel
theorem dX6_doneIn_48 : decode cX6_doneIn 48 = .ok (.iload_n 1, 1) := by decide +kernel
theorem dX6_doneIn_49 : decode cX6_doneIn 49 = .ok (.istore_n 2, 1) := by decide +kernel
theorem dX6_doneIn_50 : decode cX6_doneIn 50 = .ok (.aload_n 0, 1) := by decide +kernel
theorem dX6_doneIn_51 : decode cX6_doneIn 51 = .ok (.invokevirtual 178, 3) := by decide +kernel
theorem dX6_doneIn_54 : decode cX6_doneIn 54 = .ok (.iload_n 2, 1) := by decide +kernel
theorem dX6_doneIn_55 : decode cX6_doneIn 55 = .ok (.ireturn, 1) := by decide +kernel
set_option maxRecDepth 20000 in
theorem ggX6_bestLink_X6_matches : GoodIn wsX6_bestLink wsX6_matches := goodIn_r _ [7, 8, 9, 10, 11, 6, 12, 13, 14, 15, 16, 17, 18, 19, 20, 21, 2, 22, 23, 24, 25, 26, 27, 28, 29, 30, 31, 32, 33, 34, 35, 36, 37, 38, 39, 40, 41, 42, 43, 44, 45, 46, 47, 48, 49, 50, 51, 52, 53, 54, 55, 56, 57, 58, 59, 60, 61, 62, 63, 64] (by decide +kernel) (by decide +kernel)
set_option maxRecDepth 20000 in
theorem gX6_bestLink_X6_matches : GoodIn wsX6_bestLink (wsV RX6 101 RX6 yX6_matches wsX6_matches) := goodIn_app (goodIn_of _ (by decide +kernel)) ggX6_bestLink_X6_matches
theorem dX6_bestLink_0 : decode cX6_bestLink 0 = .ok (.aload_n 0, 1) := by decide +kernel
theorem dX6_bestLink_1 : decode cX6_bestLink 1 = .ok (.iconst 0, 1) := by decide +kernel
theorem dX6_bestLink_2 : decode cX6_bestLink 2 = .ok (.putfield 43, 3) := by decide +kernel
theorem dX6_bestLink_5 : decode cX6_bestLink 5 = .ok (.aload_n 0, 1) := by decide +kernel
theorem dX6_bestLink_6 : decode cX6_bestLink 6 = .ok (.invokevirtual 101, 3) := by decide +kernel
theorem dX6_bestLink_9 : decode cX6_bestLink 9 = .ok (.istore_n 1, 1) := by decide +kernel
theorem dX6_bestLink_10 : decode cX6_bestLink 10 = .ok (.bipush (-5), 2) := by decide +kernel
theorem dX6_bestLink_12 : decode cX6_bestLink 12 = .ok (.istore_n 2, 1) := by decide +kernel
theorem dX6_bestLink_13 : decode cX6_bestLink 13 = .ok (.iconst 0, 1) := by decide +kernel
theorem dX6_bestLink_14 : decode cX6_bestLink 14 = .ok (.istore_n 3, 1) := by decide +kernel
theorem dX6_bestLink_15 : decode cX6_bestLink 15 = .ok (.iload_n 3, 1) := by decide +kernel
theorem dX6_bestLink_16 : decode cX6_bestLink 16 = .ok (.bipush 16, 2) := by decide +kernel
theorem dX6_bestLink_18 : decode cX6_bestLink 18 = .ok (.if_icmp .ge 72, 3) := by decide +kernel
theorem dX6_bestLink_21 : decode cX6_bestLink 21 = .ok (.aload_n 0, 1) := by decide +kernel
theorem dX6_bestLink_22 : decode cX6_bestLink 22 = .ok (.getfield 7, 3) := by decide +kernel
theorem dX6_bestLink_25 : decode cX6_bestLink 25 = .ok (.bipush 17, 2) := by decide +kernel
theorem dX6_bestLink_27 : decode cX6_bestLink 27 = .ok (.iload_n 3, 1) := by decide +kernel
theorem dX6_bestLink_28 : decode cX6_bestLink 28 = .ok (.iadd, 1) := by decide +kernel
theorem dX6_bestLink_29 : decode cX6_bestLink 29 = .ok (.iaload, 1) := by decide +kernel
theorem dX6_bestLink_30 : decode cX6_bestLink 30 = .ok (.ifCond .ne 54, 3) := by decide +kernel
theorem dX6_bestLink_33 : decode cX6_bestLink 33 = .ok (.aload_n 0, 1) := by decide +kernel
theorem dX6_bestLink_34 : decode cX6_bestLink 34 = .ok (.getfield 7, 3) := by decide +kernel
theorem dX6_bestLink_37 : decode cX6_bestLink 37 = .ok (.bipush 17, 2) := by decide +kernel
theorem dX6_bestLink_39 : decode cX6_bestLink 39 = .ok (.iload_n 3, 1) := by decide +kernel
theorem dX6_bestLink_40 : decode cX6_bestLink 40 = .ok (.iadd, 1) := by decide +kernel
theorem dX6_bestLink_41 : decode cX6_bestLink 41 = .ok (.iconst 1, 1) := by decide +kernel
theorem dX6_bestLink_42 : decode cX6_bestLink 42 = .ok (.iastore, 1) := by decide +kernel
theorem dX6_bestLink_43 : decode cX6_bestLink 43 = .ok (.aload_n 0, 1) := by decide +kernel
theorem dX6_bestLink_44 : decode cX6_bestLink 44 = .ok (.invokevirtual 101, 3) := by decide +kernel
theorem dX6_bestLink_47 : decode cX6_bestLink 47 = .ok (.istore 4, 2) := by decide +kernel
theorem dX6_bestLink_49 : decode cX6_bestLink 49 = .ok (.aload_n 0, 1) := by decide +kernel
theorem dX6_bestLink_50 : decode cX6_bestLink 50 = .ok (.getfield 7, 3) := by decide +kernel
theorem dX6_bestLink_53 : decode cX6_bestLink 53 = .ok (.bipush 17, 2) := by decide +kernel
theorem dX6_bestLink_55 : decode cX6_bestLink 55 = .ok (.iload_n 3, 1) := by decide +kernel
theorem dX6_bestLink_56 : decode cX6_bestLink 56 = .ok (.iadd, 1) := by decide +kernel
theorem dX6_bestLink_57 : decode cX6_bestLink 57 = .ok (.iconst 0, 1) := by decide +kernel
theorem dX6_bestLink_58 : decode cX6_bestLink 58 = .ok (.iastore, 1) := by decide +kernel
theorem dX6_bestLink_59 : decode cX6_bestLink 59 = .ok (.iload 4, 2) := by decide +kernel
theorem dX6_bestLink_61 : decode cX6_bestLink 61 = .ok (.iload_n 1, 1) := by decide +kernel
theorem dX6_bestLink_62 : decode cX6_bestLink 62 = .ok (.if_icmp .le 7, 3) := by decide +kernel
theorem dX6_bestLink_65 : decode cX6_bestLink 65 = .ok (.iload_n 3, 1) := by decide +kernel
theorem dX6_bestLink_66 : decode cX6_bestLink 66 = .ok (.goto 4, 3) := by decide +kernel
theorem dX6_bestLink_69 : decode cX6_bestLink 69 = .ok (.iload_n 2, 1) := by decide +kernel
theorem dX6_bestLink_70 : decode cX6_bestLink 70 = .ok (.istore_n 2, 1) := by decide +kernel
theorem dX6_bestLink_71 : decode cX6_bestLink 71 = .ok (.iload 4, 2) := by decide +kernel
theorem dX6_bestLink_73 : decode cX6_bestLink 73 = .ok (.iload_n 1, 1) := by decide +kernel
theorem dX6_bestLink_74 : decode cX6_bestLink 74 = .ok (.if_icmp .le 8, 3) := by decide +kernel
theorem dX6_bestLink_77 : decode cX6_bestLink 77 = .ok (.iload 4, 2) := by decide +kernel
theorem dX6_bestLink_79 : decode cX6_bestLink 79 = .ok (.goto 4, 3) := by decide +kernel
theorem dX6_bestLink_82 : decode cX6_bestLink 82 = .ok (.iload_n 1, 1) := by decide +kernel
theorem dX6_bestLink_83 : decode cX6_bestLink 83 = .ok (.istore_n 1, 1) := by decide +kernel
theorem dX6_bestLink_84 : decode cX6_bestLink 84 = .ok (.iinc 3 1, 3) := by decide +kernel
theorem dX6_bestLink_87 : decode cX6_bestLink 87 = .ok (.goto (-72), 3) := by decide +kernel
theorem dX6_bestLink_90 : decode cX6_bestLink 90 = .ok (.iload_n 2, 1) := by decide +kernel
theorem dX6_bestLink_91 : decode cX6_bestLink 91 = .ok (.ireturn, 1) := by decide +kernel
set_option maxRecDepth 20000 in
theorem ggX6_mean_X6_shaken : GoodIn wsX6_mean wsX6_shaken := goodIn_r _ [7, 2, 8, 9, 10, 11, 12, 13, 14, 15, 16, 17, 18, 19, 20, 21, 22, 23, 24, 25] (by decide +kernel) (by decide +kernel)
set_option maxRecDepth 20000 in
theorem gX6_mean_X6_shaken : GoodIn wsX6_mean (wsV RX6 169 RX6 yX6_shaken wsX6_shaken) := goodIn_app (goodIn_of _ (by decide +kernel)) ggX6_mean_X6_shaken
theorem dX6_mean_0 : decode cX6_mean 0 = .ok (.aload_n 0, 1) := by decide +kernel
theorem dX6_mean_1 : decode cX6_mean 1 = .ok (.iconst 0, 1) := by decide +kernel
theorem dX6_mean_2 : decode cX6_mean 2 = .ok (.putfield 43, 3) := by decide +kernel
theorem dX6_mean_5 : decode cX6_mean 5 = .ok (.aload_n 0, 1) := by decide +kernel
theorem dX6_mean_6 : decode cX6_mean 6 = .ok (.getfield 7, 3) := by decide +kernel
theorem dX6_mean_9 : decode cX6_mean 9 = .ok (.iconst 0, 1) := by decide +kernel
theorem dX6_mean_10 : decode cX6_mean 10 = .ok (.iaload, 1) := by decide +kernel
theorem dX6_mean_11 : decode cX6_mean 11 = .ok (.ifCond .ne 7, 3) := by decide +kernel
theorem dX6_mean_14 : decode cX6_mean 14 = .ok (.dconst 0, 1) := by decide +kernel
theorem dX6_mean_15 : decode cX6_mean 15 = .ok (.goto 16, 3) := by decide +kernel
theorem dX6_mean_18 : decode cX6_mean 18 = .ok (.aload_n 0, 1) := by decide +kernel
theorem dX6_mean_19 : decode cX6_mean 19 = .ok (.invokevirtual 169, 3) := by decide +kernel
theorem dX6_mean_22 : decode cX6_mean 22 = .ok (.i2d, 1) := by decide +kernel
theorem dX6_mean_23 : decode cX6_mean 23 = .ok (.aload_n 0, 1) := by decide +kernel
theorem dX6_mean_24 : decode cX6_mean 24 = .ok (.getfield 7, 3) := by decide +kernel
theorem dX6_mean_27 : decode cX6_mean 27 = .ok (.iconst 0, 1) := by decide +kernel
theorem dX6_mean_28 : decode cX6_mean 28 = .ok (.iaload, 1) := by decide +kernel
theorem dX6_mean_29 : decode cX6_mean 29 = .ok (.i2d, 1) := by decide +kernel
theorem dX6_mean_30 : decode cX6_mean 30 = .ok (.ddiv, 1) := by decide +kernel
theorem dX6_mean_31 : decode cX6_mean 31 = .ok (.dreturn, 1) := by decide +kernel
theorem dJ6_bitCount_0f7a4_0 : decode cJ6_bitCount_0f7a4 0 = .ok (.iload_n 0, 1) := by decide +kernel
theorem dJ6_bitCount_0f7a4_1 : decode cJ6_bitCount_0f7a4 1 = .ok (.iload_n 0, 1) := by decide +kernel
theorem dJ6_bitCount_0f7a4_2 : decode cJ6_bitCount_0f7a4 2 = .ok (.iconst 1, 1) := by decide +kernel
theorem dJ6_bitCount_0f7a4_3 : decode cJ6_bitCount_0f7a4 3 = .ok (.iushr, 1) := by decide +kernel
theorem dJ6_bitCount_0f7a4_4 : decode cJ6_bitCount_0f7a4 4 = .ok (.ldc_w 265, 3) := by decide +kernel
theorem dJ6_bitCount_0f7a4_7 : decode cJ6_bitCount_0f7a4 7 = .ok (.iand, 1) := by decide +kernel
theorem dJ6_bitCount_0f7a4_8 : decode cJ6_bitCount_0f7a4 8 = .ok (.isub, 1) := by decide +kernel
theorem dJ6_bitCount_0f7a4_9 : decode cJ6_bitCount_0f7a4 9 = .ok (.istore_n 0, 1) := by decide +kernel
theorem dJ6_bitCount_0f7a4_10 : decode cJ6_bitCount_0f7a4 10 = .ok (.iload_n 0, 1) := by decide +kernel
theorem dJ6_bitCount_0f7a4_11 : decode cJ6_bitCount_0f7a4 11 = .ok (.ldc_w 266, 3) := by decide +kernel
theorem dJ6_bitCount_0f7a4_14 : decode cJ6_bitCount_0f7a4 14 = .ok (.iand, 1) := by decide +kernel
theorem dJ6_bitCount_0f7a4_15 : decode cJ6_bitCount_0f7a4 15 = .ok (.iload_n 0, 1) := by decide +kernel
theorem dJ6_bitCount_0f7a4_16 : decode cJ6_bitCount_0f7a4 16 = .ok (.iconst 2, 1) := by decide +kernel
theorem dJ6_bitCount_0f7a4_17 : decode cJ6_bitCount_0f7a4 17 = .ok (.iushr, 1) := by decide +kernel
theorem dJ6_bitCount_0f7a4_18 : decode cJ6_bitCount_0f7a4 18 = .ok (.ldc_w 266, 3) := by decide +kernel
theorem dJ6_bitCount_0f7a4_21 : decode cJ6_bitCount_0f7a4 21 = .ok (.iand, 1) := by decide +kernel
theorem dJ6_bitCount_0f7a4_22 : decode cJ6_bitCount_0f7a4 22 = .ok (.iadd, 1) := by decide +kernel
theorem dJ6_bitCount_0f7a4_23 : decode cJ6_bitCount_0f7a4 23 = .ok (.istore_n 0, 1) := by decide +kernel
theorem dJ6_bitCount_0f7a4_24 : decode cJ6_bitCount_0f7a4 24 = .ok (.iload_n 0, 1) := by decide +kernel
theorem dJ6_bitCount_0f7a4_25 : decode cJ6_bitCount_0f7a4 25 = .ok (.iload_n 0, 1) := by decide +kernel
theorem dJ6_bitCount_0f7a4_26 : decode cJ6_bitCount_0f7a4 26 = .ok (.iconst 4, 1) := by decide +kernel
theorem dJ6_bitCount_0f7a4_27 : decode cJ6_bitCount_0f7a4 27 = .ok (.iushr, 1) := by decide +kernel
theorem dJ6_bitCount_0f7a4_28 : decode cJ6_bitCount_0f7a4 28 = .ok (.iadd, 1) := by decide +kernel
theorem dJ6_bitCount_0f7a4_29 : decode cJ6_bitCount_0f7a4 29 = .ok (.ldc_w 267, 3) := by decide +kernel
theorem dJ6_bitCount_0f7a4_32 : decode cJ6_bitCount_0f7a4 32 = .ok (.iand, 1) := by decide +kernel
theorem dJ6_bitCount_0f7a4_33 : decode cJ6_bitCount_0f7a4 33 = .ok (.istore_n 0, 1) := by decide +kernel
theorem dJ6_bitCount_0f7a4_34 : decode cJ6_bitCount_0f7a4 34 = .ok (.iload_n 0, 1) := by decide +kernel
theorem dJ6_bitCount_0f7a4_35 : decode cJ6_bitCount_0f7a4 35 = .ok (.iload_n 0, 1) := by decide +kernel
theorem dJ6_bitCount_0f7a4_36 : decode cJ6_bitCount_0f7a4 36 = .ok (.bipush 8, 2) := by decide +kernel
theorem dJ6_bitCount_0f7a4_38 : decode cJ6_bitCount_0f7a4 38 = .ok (.iushr, 1) := by decide +kernel
theorem dJ6_bitCount_0f7a4_39 : decode cJ6_bitCount_0f7a4 39 = .ok (.iadd, 1) := by decide +kernel
theorem dJ6_bitCount_0f7a4_40 : decode cJ6_bitCount_0f7a4 40 = .ok (.istore_n 0, 1) := by decide +kernel
theorem dJ6_bitCount_0f7a4_41 : decode cJ6_bitCount_0f7a4 41 = .ok (.iload_n 0, 1) := by decide +kernel
theorem dJ6_bitCount_0f7a4_42 : decode cJ6_bitCount_0f7a4 42 = .ok (.iload_n 0, 1) := by decide +kernel
theorem dJ6_bitCount_0f7a4_43 : decode cJ6_bitCount_0f7a4 43 = .ok (.bipush 16, 2) := by decide +kernel
theorem dJ6_bitCount_0f7a4_45 : decode cJ6_bitCount_0f7a4 45 = .ok (.iushr, 1) := by decide +kernel
theorem dJ6_bitCount_0f7a4_46 : decode cJ6_bitCount_0f7a4 46 = .ok (.iadd, 1) := by decide +kernel
theorem dJ6_bitCount_0f7a4_47 : decode cJ6_bitCount_0f7a4 47 = .ok (.istore_n 0, 1) := by decide +kernel
theorem dJ6_bitCount_0f7a4_48 : decode cJ6_bitCount_0f7a4 48 = .ok (.iload_n 0, 1) := by decide +kernel
theorem dJ6_bitCount_0f7a4_49 : decode cJ6_bitCount_0f7a4 49 = .ok (.bipush 63, 2) := by decide +kernel
theorem dJ6_bitCount_0f7a4_51 : decode cJ6_bitCount_0f7a4 51 = .ok (.iand, 1) := by decide +kernel
theorem dJ6_bitCount_0f7a4_52 : decode cJ6_bitCount_0f7a4 52 = .ok (.ireturn, 1) := by decide +kernel
theorem dJ9_max_7cf53_0 : decode cJ9_max_7cf53 0 = .ok (.iload_n 0, 1) := by decide +kernel
theorem dJ9_max_7cf53_1 : decode cJ9_max_7cf53 1 = .ok (.iload_n 1, 1) := by decide +kernel
theorem dJ9_max_7cf53_2 : decode cJ9_max_7cf53 2 = .ok (.if_icmp .lt 7, 3) := by decide +kernel
theorem dJ9_max_7cf53_5 : decode cJ9_max_7cf53 5 = .ok (.iload_n 0, 1) := by decide +kernel
theorem dJ9_max_7cf53_6 : decode cJ9_max_7cf53 6 = .ok (.goto 4, 3) := by decide +kernel
theorem dJ9_max_7cf53_9 : decode cJ9_max_7cf53 9 = .ok (.iload_n 1, 1) := by decide +kernel
theorem dJ9_max_7cf53_10 : decode cJ9_max_7cf53 10 = .ok (.ireturn, 1) := by decide +kernel
theorem dJ7_fill_53178_0 : decode cJ7_fill_53178 0 = .ok (.iconst 0, 1) := by decide +kernel
theorem dJ7_fill_53178_1 : decode cJ7_fill_53178 1 = .ok (.istore_n 2, 1) := by decide +kernel
theorem dJ7_fill_53178_2 : decode cJ7_fill_53178 2 = .ok (.aload_n 0, 1) := by decide +kernel
theorem dJ7_fill_53178_3 : decode cJ7_fill_53178 3 = .ok (.arraylength, 1) := by decide +kernel
theorem dJ7_fill_53178_4 : decode cJ7_fill_53178 4 = .ok (.istore_n 3, 1) := by decide +kernel
theorem dJ7_fill_53178_5 : decode cJ7_fill_53178 5 = .ok (.iload_n 2, 1) := by decide +kernel
theorem dJ7_fill_53178_6 : decode cJ7_fill_53178 6 = .ok (.iload_n 3, 1) := by decide +kernel
theorem dJ7_fill_53178_7 : decode cJ7_fill_53178 7 = .ok (.if_icmp .ge 13, 3) := by decide +kernel
theorem dJ7_fill_53178_10 : decode cJ7_fill_53178 10 = .ok (.aload_n 0, 1) := by decide +kernel
theorem dJ7_fill_53178_11 : decode cJ7_fill_53178 11 = .ok (.iload_n 2, 1) := by decide +kernel
theorem dJ7_fill_53178_12 : decode cJ7_fill_53178 12 = .ok (.iload_n 1, 1) := by decide +kernel
theorem dJ7_fill_53178_13 : decode cJ7_fill_53178 13 = .ok (.iastore, 1) := by decide +kernel
theorem dJ7_fill_53178_14 : decode cJ7_fill_53178 14 = .ok (.iinc 2 1, 3) := by decide +kernel
theorem dJ7_fill_53178_17 : decode cJ7_fill_53178 17 = .ok (.goto (-12), 3) := by decide +kernel
theorem dJ7_fill_53178_20 : decode cJ7_fill_53178 20 = .ok (.return_, 1) := by decide +kernel
set_option maxRecDepth 20000 in
theorem ggL_law_X5_init : GoodIn wsL_law wsX5_init := goodIn_r _ [8, 9, 10, 11, 12, 13, 14, 15, 16, 17, 18, 19, 20, 21, 22, 23, 24, 25, 26, 27, 28, 29, 30, 31, 32, 33, 34, 35, 36, 37, 38, 39, 40, 41, 42, 43, 44, 45, 46, 47, 48, 49, 50, 51, 52, 53, 54, 55, 56, 57, 58, 59, 60, 61, 737, 711, 712, 713, 714, 715, 716, 717, 718, 738, 739, 740, 741, 742, 743, 744, 745, 746, 747, 748, 749, 750, 751, 752] (by decide +kernel) (by decide +kernel)
set_option maxRecDepth 20000 in
theorem gL_law_X5_init : GoodIn wsL_law (wsX5_init) := ggL_law_X5_init
set_option maxRecDepth 20000 in
theorem ggL_law_X6_init : GoodIn wsL_law wsX6_init := goodIn_r _ [64, 65, 10, 11, 39, 66, 67, 68, 69, 70, 71, 72, 73, 74, 75, 76, 77, 719, 720, 721, 722, 723, 724, 725, 726, 727, 728, 729, 730, 731, 732, 733, 734, 735, 736] (by decide +kernel) (by decide +kernel)
set_option maxRecDepth 20000 in
theorem gL_law_X6_init : GoodIn wsL_law (wsX6_init) := ggL_law_X6_init
set_option maxRecDepth 20000 in
theorem ggL_law_X5_wish : GoodIn wsL_law wsX5_wish := goodIn_r _ [81, 15, 21, 82, 83, 2, 84, 85, 86, 87, 88, 89, 90, 14, 91, 40, 92, 93, 94, 95, 96, 20, 97, 98, 99, 44, 100, 101, 102, 103, 104, 105, 106, 107, 108, 109, 110, 111, 112, 113, 114, 115, 116, 117, 118, 119, 120, 121, 122, 123, 124, 125, 126, 711, 712, 713, 714, 715, 716, 717, 718, 737, 738, 739, 740] (by decide +kernel) (by decide +kernel)
set_option maxRecDepth 20000 in
theorem gL_law_X5_wish : GoodIn wsL_law (wsV RL 13 RX5 yX5_wish wsX5_wish) := goodIn_app (goodIn_of _ (by decide +kernel)) ggL_law_X5_wish
set_option maxRecDepth 20000 in
theorem ggL_law_X6_wish : GoodIn wsL_law wsX6_wish := goodIn_r _ [130, 77, 66, 131, 132, 5, 133, 134, 135, 136, 137, 138, 139, 140, 141, 142, 143, 144, 145, 146, 147, 148, 68, 149, 150, 151, 152, 719, 720, 721, 722, 723, 724, 725, 726, 727, 728, 729, 730, 731, 732, 733, 734, 735, 736] (by decide +kernel) (by decide +kernel)
set_option maxRecDepth 20000 in
theorem gL_law_X6_wish : GoodIn wsL_law (wsV RL 17 RX6 yX6_wish wsX6_wish) := goodIn_app (goodIn_of _ (by decide +kernel)) ggL_law_X6_wish
set_option maxRecDepth 20000 in
theorem ggL_law_X5_withdraw : GoodIn wsL_law wsX5_withdraw := goodIn_r _ [156, 15, 21, 82, 83, 2, 84, 85, 86, 87, 88, 89, 90, 14, 91, 40, 92, 93, 94, 95, 96, 20, 97, 98, 99, 44, 100, 101, 102, 103, 104, 105, 106, 107, 157, 158, 159, 160, 116, 117, 118, 119, 120, 121, 122, 123, 124, 125, 126, 711, 712, 713, 714, 715, 716, 717, 718, 737, 738, 739, 740] (by decide +kernel) (by decide +kernel)
set_option maxRecDepth 20000 in
theorem gL_law_X5_withdraw : GoodIn wsL_law (wsV RL 18 RX5 yX5_withdraw wsX5_withdraw) := goodIn_app (goodIn_of _ (by decide +kernel)) ggL_law_X5_withdraw
set_option maxRecDepth 20000 in
theorem ggL_law_X6_withdraw : GoodIn wsL_law wsX6_withdraw := goodIn_r _ [164, 77, 66, 131, 132, 5, 133, 134, 135, 136, 137, 138, 139, 140, 141, 142, 143, 144, 145, 146, 147, 148, 68, 149, 150, 151, 152, 719, 720, 721, 722, 723, 724, 725, 726, 727, 728, 729, 730, 731, 732, 733, 734, 735, 736] (by decide +kernel) (by decide +kernel)
set_option maxRecDepth 20000 in
theorem gL_law_X6_withdraw : GoodIn wsL_law (wsV RL 21 RX6 yX6_withdraw wsX6_withdraw) := goodIn_app (goodIn_of _ (by decide +kernel)) ggL_law_X6_withdraw
set_option maxRecDepth 20000 in
theorem ggL_law_X5_quarrel : GoodIn wsL_law wsX5_quarrel := goodIn_r _ [168, 21, 15, 82, 83, 2, 84, 85, 86, 87, 94, 95, 96, 20, 97, 98, 99, 44, 100, 101, 102, 103, 104, 105, 106, 107, 169, 170, 171, 14, 172, 40, 173, 174, 175, 176, 711, 712, 713, 714, 715, 716, 717, 718, 738, 739, 740, 737] (by decide +kernel) (by decide +kernel)
set_option maxRecDepth 20000 in
theorem gL_law_X5_quarrel : GoodIn wsL_law (wsV RL 22 RX5 yX5_quarrel wsX5_quarrel) := goodIn_app (goodIn_of _ (by decide +kernel)) ggL_law_X5_quarrel
set_option maxRecDepth 20000 in
theorem ggL_law_X6_quarrel : GoodIn wsL_law wsX6_quarrel := goodIn_r _ [180, 77, 66, 131, 132, 5, 133, 134, 135, 136, 137, 138, 139, 144, 145, 146, 147, 148, 68, 719, 720, 721, 722, 723, 724, 725, 726, 727, 728, 729, 730, 731, 732, 733, 734, 735, 736] (by decide +kernel) (by decide +kernel)
set_option maxRecDepth 20000 in
theorem gL_law_X6_quarrel : GoodIn wsL_law (wsV RL 26 RX6 yX6_quarrel wsX6_quarrel) := goodIn_app (goodIn_of _ (by decide +kernel)) ggL_law_X6_quarrel
set_option maxRecDepth 20000 in
theorem ggL_law_X5_reconcile : GoodIn wsL_law wsX5_reconcile := goodIn_r _ [184, 15, 21, 82, 83, 2, 84, 85, 86, 87, 169, 170, 171, 14, 172, 40, 94, 95, 96, 20, 97, 98, 99, 44, 100, 101, 102, 103, 104, 105, 106, 107, 173, 174, 175, 176, 711, 712, 713, 714, 715, 716, 717, 718, 737, 738, 739, 740] (by decide +kernel) (by decide +kernel)
set_option maxRecDepth 20000 in
theorem gL_law_X5_reconcile : GoodIn wsL_law (wsV RL 27 RX5 yX5_reconcile wsX5_reconcile) := goodIn_app (goodIn_of _ (by decide +kernel)) ggL_law_X5_reconcile
set_option maxRecDepth 20000 in
theorem ggL_law_X6_reconcile : GoodIn wsL_law wsX6_reconcile := goodIn_r _ [188, 77, 66, 131, 132, 5, 133, 134, 135, 136, 137, 138, 139, 144, 145, 146, 147, 148, 68, 719, 720, 721, 722, 723, 724, 725, 726, 727, 728, 729, 730, 731, 732, 733, 734, 735, 736] (by decide +kernel) (by decide +kernel)
set_option maxRecDepth 20000 in
theorem gL_law_X6_reconcile : GoodIn wsL_law (wsV RL 30 RX6 yX6_reconcile wsX6_reconcile) := goodIn_app (goodIn_of _ (by decide +kernel)) ggL_law_X6_reconcile
set_option maxRecDepth 20000 in
theorem ggL_law_X5_link : GoodIn wsL_law wsX5_link := goodIn_r _ [192, 21, 15, 193, 194, 2, 195, 94, 95, 96, 20, 97, 98, 99, 44, 100, 101, 102, 103, 104, 105, 106, 107, 196, 197, 198, 14, 199, 40, 92, 93, 200, 201, 202, 203, 204, 205, 206, 711, 712, 713, 714, 715, 716, 717, 718, 738, 739, 740, 737] (by decide +kernel) (by decide +kernel)
set_option maxRecDepth 20000 in
theorem gL_law_X5_link : GoodIn wsL_law (wsV RL 31 RX5 yX5_link wsX5_link) := goodIn_app (goodIn_of _ (by decide +kernel)) ggL_law_X5_link
set_option maxRecDepth 20000 in
theorem ggL_law_X6_link : GoodIn wsL_law wsX6_link := goodIn_r _ [210, 77, 66, 211, 212, 5, 213, 137, 138, 139, 144, 145, 146, 147, 148, 68, 719, 720, 721, 722, 723, 724, 725, 726, 727, 728, 729, 730, 731, 732, 733, 734, 735, 736] (by decide +kernel) (by decide +kernel)
set_option maxRecDepth 20000 in
theorem gL_law_X6_link : GoodIn wsL_law (wsV RL 35 RX6 yX6_link wsX6_link) := goodIn_app (goodIn_of _ (by decide +kernel)) ggL_law_X6_link
set_option maxRecDepth 20000 in
theorem ggL_law_X5_move : GoodIn wsL_law wsX5_move := goodIn_r _ [217, 21, 15, 85, 86, 2, 87, 193, 194, 195, 94, 95, 96, 20, 97, 98, 99, 44, 100, 101, 102, 103, 104, 105, 106, 107, 218, 219, 220, 14, 221, 40, 222, 223, 224, 225, 711, 712, 713, 714, 715, 716, 717, 718, 738, 739, 740, 737] (by decide +kernel) (by decide +kernel)
set_option maxRecDepth 20000 in
theorem gL_law_X5_move : GoodIn wsL_law (wsV RL 36 RX5 yX5_move wsX5_move) := goodIn_app (goodIn_of _ (by decide +kernel)) ggL_law_X5_move
set_option maxRecDepth 20000 in
theorem ggL_law_X6_move : GoodIn wsL_law wsX6_move := goodIn_r _ [229, 77, 66, 134, 135, 5, 136, 137, 138, 139, 211, 212, 213, 144, 145, 146, 147, 148, 68, 719, 720, 721, 722, 723, 724, 725, 726, 727, 728, 729, 730, 731, 732, 733, 734, 735, 736] (by decide +kernel) (by decide +kernel)
set_option maxRecDepth 20000 in
theorem gL_law_X6_move : GoodIn wsL_law (wsV RL 40 RX6 yX6_move wsX6_move) := goodIn_app (goodIn_of _ (by decide +kernel)) ggL_law_X6_move
set_option maxRecDepth 20000 in
theorem ggL_law_X5_round : GoodIn wsL_law wsX5_round := goodIn_r _ [233, 21, 15, 94, 95, 96, 20, 97, 98, 99, 44, 100, 101, 102, 103, 104, 105, 106, 107, 234, 235, 236, 2, 237, 29, 238, 239, 240, 28, 241, 55, 54, 242, 243, 244, 245, 56, 246, 247, 248, 249, 250, 251, 252, 14, 253, 254, 89, 90, 91, 40, 92, 93, 255, 256, 257, 258, 259, 170, 171, 172, 260, 261, 262, 263, 264, 265, 266, 267, 57, 268, 269, 270, 271, 272, 273, 274, 275, 276, 86, 87, 277, 278, 279, 280, 281, 282, 283, 284, 285, 286, 287, 288, 85, 289, 290, 291, 292, 293, 158, 159, 160, 294, 295, 296, 297, 298, 299, 300, 301, 201, 202, 711, 712, 713, 714, 715, 716, 717, 718, 738, 739, 740, 737, 747, 748, 749, 750, 751] (by decide +kernel) (by decide +kernel)
set_option maxRecDepth 20000 in
theorem gL_law_X5_round : GoodIn wsL_law (wsV RL 41 RX5 yX5_round wsX5_round) := goodIn_app (goodIn_of _ (by decide +kernel)) ggL_law_X5_round
set_option maxRecDepth 20000 in
theorem ggL_law_X6_round : GoodIn wsL_law wsX6_round := goodIn_r _ [305, 77, 144, 145, 146, 5, 147, 148, 68, 66, 306, 307, 308, 309, 73, 310, 311, 312, 313, 314, 315, 316, 317, 71, 318, 319, 320, 321, 140, 141, 142, 143, 322, 323, 324, 325, 326, 327, 328, 329, 330, 331, 332, 333, 72, 334, 335, 336, 337, 338, 339, 340, 341, 342, 343, 344, 345, 719, 720, 721, 722, 723, 724, 725, 726, 727, 728, 729, 730, 731, 732, 733, 734, 735, 736] (by decide +kernel) (by decide +kernel)
set_option maxRecDepth 20000 in
theorem gL_law_X6_round : GoodIn wsL_law (wsV RL 45 RX6 yX6_round wsX6_round) := goodIn_app (goodIn_of _ (by decide +kernel)) ggL_law_X6_round
set_option maxRecDepth 20000 in
theorem ggL_law_X5_append : GoodIn wsL_law wsX5_append := goodIn_r _ [349, 25, 350, 351, 352, 24, 353, 354, 355, 356, 357, 358, 49, 359, 360, 361, 362, 363, 711, 712, 713, 714, 715, 716, 717, 718, 741, 742, 743, 744, 745, 746] (by decide +kernel) (by decide +kernel)
set_option maxRecDepth 20000 in
theorem gL_law_X5_append : GoodIn wsL_law (wsV RL 46 RX5 yX5_append wsX5_append) := goodIn_app (goodIn_of _ (by decide +kernel)) ggL_law_X5_append
set_option maxRecDepth 20000 in
theorem ggL_law_X6_append : GoodIn wsL_law wsX6_append := goodIn_r _ [367, 77, 368, 70, 137, 138, 5, 139, 719, 720, 721, 722, 723, 724, 725, 726, 727, 728, 729, 730, 731, 732, 733, 734, 735, 736] (by decide +kernel) (by decide +kernel)
set_option maxRecDepth 20000 in
theorem gL_law_X6_append : GoodIn wsL_law (wsV RL 50 RX6 yX6_append wsX6_append) := goodIn_app (goodIn_of _ (by decide +kernel)) ggL_law_X6_append
set_option maxRecDepth 20000 in
theorem ggL_law_X5_clearText : GoodIn wsL_law wsX5_clearText := goodIn_r _ [372, 25, 360, 361, 362, 24, 363, 354, 373, 374, 375, 376, 711, 712, 713, 714, 715, 716, 717, 718, 741, 742, 743, 744, 745, 746] (by decide +kernel) (by decide +kernel)
set_option maxRecDepth 20000 in
theorem gL_law_X5_clearText : GoodIn wsL_law (wsV RL 51 RX5 yX5_clearText wsX5_clearText) := goodIn_app (goodIn_of _ (by decide +kernel)) ggL_law_X5_clearText
set_option maxRecDepth 20000 in
theorem ggL_law_X6_clearText : GoodIn wsL_law wsX6_clearText := goodIn_r _ [380, 77, 368, 719, 720, 721, 722, 723, 724, 725, 726, 727, 728, 729, 730, 731, 732, 733, 734, 735, 736] (by decide +kernel) (by decide +kernel)
set_option maxRecDepth 20000 in
theorem gL_law_X6_clearText : GoodIn wsL_law (wsV RL 54 RX6 yX6_clearText wsX6_clearText) := goodIn_app (goodIn_of _ (by decide +kernel)) ggL_law_X6_clearText
set_option maxRecDepth 20000 in
theorem ggL_law_X5_fault : GoodIn wsL_law wsX5_fault := goodIn_r _ [384, 25, 385, 386, 387, 24, 388, 50, 354, 49, 389, 390, 247, 248, 249, 391, 392, 393, 394, 395, 396, 397, 398, 399, 400, 401, 402, 403, 404, 405, 406, 407, 408, 92, 2, 93, 711, 712, 713, 714, 715, 716, 717, 718, 741, 742, 743, 744, 745, 746] (by decide +kernel) (by decide +kernel)
set_option maxRecDepth 20000 in
theorem gL_law_X5_fault : GoodIn wsL_law (wsV RL 55 RX5 yX5_fault wsX5_fault) := goodIn_app (goodIn_of _ (by decide +kernel)) ggL_law_X5_fault
set_option maxRecDepth 20000 in
theorem ggL_law_X6_fault : GoodIn wsL_law wsX6_fault := goodIn_r _ [412, 77, 413, 414, 415, 5, 416, 417, 418, 419, 368, 420, 421, 422, 423, 76, 424, 425, 426, 427, 428, 429, 430, 431, 70, 137, 138, 139, 719, 720, 721, 722, 723, 724, 725, 726, 727, 728, 729, 730, 731, 732, 733, 734, 735, 736] (by decide +kernel) (by decide +kernel)
set_option maxRecDepth 20000 in
theorem gL_law_X6_fault : GoodIn wsL_law (wsV RL 58 RX6 yX6_fault wsX6_fault) := goodIn_app (goodIn_of _ (by decide +kernel)) ggL_law_X6_fault
set_option maxRecDepth 20000 in
theorem ggL_law_X5_read : GoodIn wsL_law wsX5_read := goodIn_r _ [435, 25, 21, 15, 385, 386, 387, 24, 388, 50, 354, 49, 389, 390, 247, 248, 249, 391, 392, 393, 394, 395, 396, 397, 398, 399, 400, 401, 402, 403, 404, 405, 406, 407, 408, 92, 2, 93, 94, 95, 96, 20, 97, 98, 99, 44, 100, 101, 102, 103, 104, 105, 106, 107, 116, 117, 118, 14, 119, 40, 120, 121, 122, 123, 124, 125, 126, 436, 437, 438, 439, 440, 113, 114, 115, 711, 712, 713, 714, 715, 716, 717, 718, 741, 742, 743, 744, 745, 746, 738, 739, 740, 737] (by decide +kernel) (by decide +kernel)
set_option maxRecDepth 20000 in
theorem gL_law_X5_read : GoodIn wsL_law (wsV RL 59 RX5 yX5_read wsX5_read) := goodIn_app (goodIn_of _ (by decide +kernel)) ggL_law_X5_read
set_option maxRecDepth 20000 in
theorem ggL_law_X6_read : GoodIn wsL_law wsX6_read := goodIn_r _ [444, 77, 418, 76, 413, 414, 415, 5, 416, 417, 419, 368, 420, 421, 422, 423, 424, 425, 426, 427, 428, 429, 430, 431, 70, 137, 138, 139, 144, 145, 146, 147, 148, 68, 66, 445, 446, 447, 448, 719, 720, 721, 722, 723, 724, 725, 726, 727, 728, 729, 730, 731, 732, 733, 734, 735, 736] (by decide +kernel) (by decide +kernel)
set_option maxRecDepth 20000 in
theorem gL_law_X6_read : GoodIn wsL_law (wsV RL 62 RX6 yX6_read wsX6_read) := goodIn_app (goodIn_of _ (by decide +kernel)) ggL_law_X6_read
set_option maxRecDepth 20000 in
theorem ggL_law_X5_undo : GoodIn wsL_law wsX5_undo := goodIn_r _ [452, 21, 15, 453, 454, 455, 20, 456, 98, 457, 458, 459, 460, 44, 100, 101, 102, 103, 104, 105, 106, 107, 99, 711, 712, 713, 714, 715, 716, 717, 718, 738, 739, 740, 737] (by decide +kernel) (by decide +kernel)
set_option maxRecDepth 20000 in
theorem gL_law_X5_undo : GoodIn wsL_law (wsV RL 63 RX5 yX5_undo wsX5_undo) := goodIn_app (goodIn_of _ (by decide +kernel)) ggL_law_X5_undo
set_option maxRecDepth 20000 in
theorem ggL_law_X6_undo : GoodIn wsL_law wsX6_undo := goodIn_r _ [464, 77, 148, 66, 68, 719, 720, 721, 722, 723, 724, 725, 726, 727, 728, 729, 730, 731, 732, 733, 734, 735, 736] (by decide +kernel) (by decide +kernel)
set_option maxRecDepth 20000 in
theorem gL_law_X6_undo : GoodIn wsL_law (wsV RL 66 RX6 yX6_undo wsX6_undo) := goodIn_app (goodIn_of _ (by decide +kernel)) ggL_law_X6_undo
set_option maxRecDepth 20000 in
theorem ggL_law_X5_save : GoodIn wsL_law wsX5_save := goodIn_r _ [468, 17, 15, 34, 469, 470, 471, 14, 472, 40, 473, 101, 102, 103, 116, 117, 118, 119, 120, 121, 122, 123, 124, 125, 126, 711, 712, 713, 714, 715, 716, 717, 718, 737] (by decide +kernel) (by decide +kernel)
set_option maxRecDepth 20000 in
theorem gL_law_X5_save : GoodIn wsL_law (wsV RL 67 RX5 yX5_save wsX5_save) := goodIn_app (goodIn_of _ (by decide +kernel)) ggL_law_X5_save
set_option maxRecDepth 20000 in
theorem ggL_law_X6_save : GoodIn wsL_law wsX6_save := goodIn_r _ [477, 77, 69, 66, 478, 149, 150, 151, 5, 152, 719, 720, 721, 722, 723, 724, 725, 726, 727, 728, 729, 730, 731, 732, 733, 734, 735, 736] (by decide +kernel) (by decide +kernel)
set_option maxRecDepth 20000 in
theorem gL_law_X6_save : GoodIn wsL_law (wsV RL 70 RX6 yX6_save wsX6_save) := goodIn_app (goodIn_of _ (by decide +kernel)) ggL_law_X6_save
set_option maxRecDepth 20000 in
theorem ggL_law_X5_restore : GoodIn wsL_law wsX5_restore := goodIn_r _ [482, 34, 21, 15, 17, 94, 95, 96, 20, 97, 98, 99, 44, 100, 101, 102, 103, 104, 105, 106, 107, 469, 470, 471, 14, 472, 40, 473, 116, 117, 118, 119, 120, 121, 122, 123, 124, 125, 126, 711, 712, 713, 714, 715, 716, 717, 718, 738, 739, 740, 737] (by decide +kernel) (by decide +kernel)
set_option maxRecDepth 20000 in
theorem gL_law_X5_restore : GoodIn wsL_law (wsV RL 71 RX5 yX5_restore wsX5_restore) := goodIn_app (goodIn_of _ (by decide +kernel)) ggL_law_X5_restore
set_option maxRecDepth 20000 in
theorem ggL_law_X6_restore : GoodIn wsL_law wsX6_restore := goodIn_r _ [486, 77, 478, 66, 69, 144, 145, 146, 5, 147, 148, 68, 149, 150, 151, 152, 719, 720, 721, 722, 723, 724, 725, 726, 727, 728, 729, 730, 731, 732, 733, 734, 735, 736] (by decide +kernel) (by decide +kernel)
set_option maxRecDepth 20000 in
theorem gL_law_X6_restore : GoodIn wsL_law (wsV RL 74 RX6 yX6_restore wsX6_restore) := goodIn_app (goodIn_of _ (by decide +kernel)) ggL_law_X6_restore
set_option maxRecDepth 20000 in
theorem ggL_law_X5_person : GoodIn wsL_law wsX5_person := goodIn_r _ [490, 15, 85, 86, 2, 87, 218, 219, 220, 14, 221, 40, 491, 492, 493, 494, 495, 496, 497, 498, 254, 89, 90, 91, 92, 93, 201, 202, 499, 251, 252, 253, 255, 256, 257, 258, 259, 170, 171, 172, 260, 261, 262, 263, 500, 501, 502, 503, 504, 505, 506, 507, 711, 712, 713, 714, 715, 716, 717, 718, 737] (by decide +kernel) (by decide +kernel)
set_option maxRecDepth 20000 in
theorem gL_law_X5_person : GoodIn wsL_law (wsV RL 75 RX5 yX5_person wsX5_person) := goodIn_app (goodIn_of _ (by decide +kernel)) ggL_law_X5_person
set_option maxRecDepth 20000 in
theorem ggL_law_X6_person : GoodIn wsL_law wsX6_person := goodIn_r _ [511, 77, 66, 134, 135, 5, 136, 137, 138, 139, 512, 513, 514, 515, 318, 319, 320, 321, 140, 141, 142, 143, 322, 323, 324, 325, 326, 327, 328, 329, 719, 720, 721, 722, 723, 724, 725, 726, 727, 728, 729, 730, 731, 732, 733, 734, 735, 736] (by decide +kernel) (by decide +kernel)
set_option maxRecDepth 20000 in
theorem gL_law_X6_person : GoodIn wsL_law (wsV RL 78 RX6 yX6_person wsX6_person) := goodIn_app (goodIn_of _ (by decide +kernel)) ggL_law_X6_person
set_option maxRecDepth 20000 in
theorem ggL_law_X5_pair : GoodIn wsL_law wsX5_pair := goodIn_r _ [519, 15, 82, 83, 2, 84, 85, 86, 87, 88, 89, 90, 14, 91, 40, 92, 93, 200, 201, 202, 169, 170, 171, 172, 520, 501, 502, 503, 521, 522, 523, 524, 29, 525, 261, 262, 263, 238, 239, 240, 28, 241, 55, 54, 242, 243, 244, 245, 56, 246, 247, 248, 249, 250, 251, 252, 253, 254, 255, 256, 257, 258, 259, 260, 264, 265, 266, 267, 57, 268, 269, 270, 271, 272, 273, 274, 275, 276, 277, 278, 279, 280, 281, 282, 283, 284, 285, 286, 287, 288, 711, 712, 713, 714, 715, 716, 717, 718, 737, 747, 748, 749, 750, 751] (by decide +kernel) (by decide +kernel)
set_option maxRecDepth 20000 in
theorem gL_law_X5_pair : GoodIn wsL_law (wsV RL 79 RX5 yX5_pair wsX5_pair) := goodIn_app (goodIn_of _ (by decide +kernel)) ggL_law_X5_pair
set_option maxRecDepth 20000 in
theorem ggL_law_X6_pair : GoodIn wsL_law wsX6_pair := goodIn_r _ [529, 77, 66, 131, 132, 5, 133, 134, 135, 136, 137, 138, 139, 530, 531, 532, 533, 73, 140, 141, 142, 143, 326, 327, 328, 329, 310, 311, 312, 313, 314, 315, 316, 317, 71, 318, 319, 320, 321, 322, 323, 324, 325, 330, 331, 332, 333, 72, 334, 335, 336, 337, 338, 339, 340, 341, 342, 343, 344, 345, 719, 720, 721, 722, 723, 724, 725, 726, 727, 728, 729, 730, 731, 732, 733, 734, 735, 736] (by decide +kernel) (by decide +kernel)
set_option maxRecDepth 20000 in
theorem gL_law_X6_pair : GoodIn wsL_law (wsV RL 82 RX6 yX6_pair wsX6_pair) := goodIn_app (goodIn_of _ (by decide +kernel)) ggL_law_X6_pair
set_option maxRecDepth 20000 in
theorem ggL_law_X5_isLinked : GoodIn wsL_law wsX5_isLinked := goodIn_r _ [537, 15, 193, 194, 2, 195, 196, 197, 198, 14, 199, 40, 92, 93, 200, 201, 202, 711, 712, 713, 714, 715, 716, 717, 718, 737] (by decide +kernel) (by decide +kernel)
set_option maxRecDepth 20000 in
theorem gL_law_X5_isLinked : GoodIn wsL_law (wsV RL 83 RX5 yX5_isLinked wsX5_isLinked) := goodIn_app (goodIn_of _ (by decide +kernel)) ggL_law_X5_isLinked
set_option maxRecDepth 20000 in
theorem ggL_law_X6_isLinked : GoodIn wsL_law wsX6_isLinked := goodIn_r _ [541, 77, 66, 211, 212, 5, 213, 137, 138, 139, 719, 720, 721, 722, 723, 724, 725, 726, 727, 728, 729, 730, 731, 732, 733, 734, 735, 736] (by decide +kernel) (by decide +kernel)
set_option maxRecDepth 20000 in
theorem gL_law_X6_isLinked : GoodIn wsL_law (wsV RL 86 RX6 yX6_isLinked wsX6_isLinked) := goodIn_app (goodIn_of _ (by decide +kernel)) ggL_law_X6_isLinked
set_option maxRecDepth 20000 in
theorem ggL_law_X5_partner : GoodIn wsL_law wsX5_partner := goodIn_r _ [545, 29, 15, 85, 86, 2, 87, 238, 239, 240, 28, 241, 55, 54, 242, 243, 244, 245, 56, 246, 247, 248, 249, 250, 251, 252, 14, 253, 254, 89, 90, 91, 40, 92, 93, 255, 256, 257, 258, 259, 170, 171, 172, 260, 261, 262, 263, 264, 265, 266, 267, 57, 268, 269, 270, 271, 272, 273, 274, 275, 276, 277, 278, 279, 280, 281, 282, 283, 284, 285, 286, 287, 288, 711, 712, 713, 714, 715, 716, 717, 718, 747, 748, 749, 750, 751, 737] (by decide +kernel) (by decide +kernel)
set_option maxRecDepth 20000 in
theorem gL_law_X5_partner : GoodIn wsL_law (wsV RL 87 RX5 yX5_partner wsX5_partner) := goodIn_app (goodIn_of _ (by decide +kernel)) ggL_law_X5_partner
set_option maxRecDepth 20000 in
theorem ggL_law_X6_partner : GoodIn wsL_law wsX6_partner := goodIn_r _ [549, 77, 73, 134, 135, 5, 136, 137, 138, 139, 310, 311, 312, 313, 314, 315, 316, 317, 71, 318, 319, 320, 321, 140, 141, 142, 143, 66, 322, 323, 324, 325, 326, 327, 328, 329, 330, 331, 332, 333, 72, 334, 335, 336, 337, 338, 339, 340, 341, 342, 343, 344, 345, 719, 720, 721, 722, 723, 724, 725, 726, 727, 728, 729, 730, 731, 732, 733, 734, 735, 736] (by decide +kernel) (by decide +kernel)
set_option maxRecDepth 20000 in
theorem gL_law_X6_partner : GoodIn wsL_law (wsV RL 91 RX6 yX6_partner wsX6_partner) := goodIn_app (goodIn_of _ (by decide +kernel)) ggL_law_X6_partner
set_option maxRecDepth 20000 in
theorem ggL_law_X5_hindered : GoodIn wsL_law wsX5_hindered := goodIn_r _ [553, 29, 15, 554, 243, 244, 28, 245, 54, 55, 56, 246, 247, 248, 249, 250, 251, 252, 14, 253, 254, 89, 90, 91, 40, 92, 2, 93, 255, 256, 257, 258, 259, 170, 171, 172, 260, 261, 262, 263, 264, 265, 266, 267, 57, 268, 269, 270, 271, 272, 273, 274, 275, 276, 86, 87, 277, 278, 279, 280, 555, 556, 557, 558, 711, 712, 713, 714, 715, 716, 717, 718, 747, 748, 749, 750, 751, 737] (by decide +kernel) (by decide +kernel)
set_option maxRecDepth 20000 in
theorem gL_law_X5_hindered : GoodIn wsL_law (wsV RL 92 RX5 yX5_hindered wsX5_hindered) := goodIn_app (goodIn_of _ (by decide +kernel)) ggL_law_X5_hindered
set_option maxRecDepth 20000 in
theorem ggL_law_X6_hindered : GoodIn wsL_law wsX6_hindered := goodIn_r _ [562, 77, 71, 310, 311, 312, 5, 313, 73, 314, 315, 316, 317, 318, 319, 320, 321, 140, 141, 142, 143, 66, 322, 323, 324, 325, 326, 327, 328, 329, 330, 331, 332, 333, 72, 334, 335, 336, 337, 338, 339, 340, 341, 342, 343, 344, 345, 719, 720, 721, 722, 723, 724, 725, 726, 727, 728, 729, 730, 731, 732, 733, 734, 735, 736] (by decide +kernel) (by decide +kernel)
set_option maxRecDepth 20000 in
theorem gL_law_X6_hindered : GoodIn wsL_law (wsV RL 95 RX6 yX6_hindered wsX6_hindered) := goodIn_app (goodIn_of _ (by decide +kernel)) ggL_law_X6_hindered
set_option maxRecDepth 20000 in
theorem ggL_law_X5_planned : GoodIn wsL_law wsX5_planned := goodIn_r _ [566, 33, 15, 82, 83, 2, 84, 85, 86, 87, 567, 568, 569, 32, 570, 61, 571, 247, 248, 249, 572, 251, 252, 14, 253, 254, 89, 90, 91, 40, 92, 93, 255, 256, 257, 258, 259, 170, 171, 172, 260, 261, 262, 263, 573, 574, 575, 576, 577, 578, 579, 580, 581, 582, 583, 584, 585, 586, 587, 588, 589, 590, 591, 592, 593, 594, 595, 596, 597, 598, 599, 600, 601, 711, 712, 713, 714, 715, 716, 717, 718, 752, 737] (by decide +kernel) (by decide +kernel)
set_option maxRecDepth 20000 in
theorem gL_law_X5_planned : GoodIn wsL_law (wsV RL 96 RX5 yX5_planned wsX5_planned) := goodIn_app (goodIn_of _ (by decide +kernel)) ggL_law_X5_planned
set_option maxRecDepth 20000 in
theorem ggL_law_X6_planned : GoodIn wsL_law wsX6_planned := goodIn_r _ [605, 77, 74, 131, 132, 5, 133, 134, 135, 136, 137, 138, 139, 606, 607, 608, 609, 318, 319, 320, 321, 140, 141, 142, 143, 66, 322, 323, 324, 325, 326, 327, 328, 329, 610, 611, 612, 613, 614, 615, 616, 617, 618, 619, 620, 621, 75, 719, 720, 721, 722, 723, 724, 725, 726, 727, 728, 729, 730, 731, 732, 733, 734, 735, 736] (by decide +kernel) (by decide +kernel)
set_option maxRecDepth 20000 in
theorem gL_law_X6_planned : GoodIn wsL_law (wsV RL 99 RX6 yX6_planned wsX6_planned) := goodIn_app (goodIn_of _ (by decide +kernel)) ggL_law_X6_planned
set_option maxRecDepth 20000 in
theorem ggL_law_X5_count : GoodIn wsL_law wsX5_count := goodIn_r _ [625, 15, 21, 25, 116, 117, 118, 14, 119, 40, 120, 121, 122, 123, 124, 125, 126, 626, 627, 628, 629, 630, 492, 493, 494, 495, 496, 497, 498, 254, 89, 90, 91, 92, 2, 93, 201, 202, 499, 251, 252, 253, 255, 256, 257, 258, 259, 170, 171, 172, 260, 261, 262, 263, 500, 501, 502, 503, 631, 632, 633, 634, 635, 636, 637, 638, 639, 640, 641, 642, 29, 554, 243, 244, 28, 245, 54, 55, 56, 246, 247, 248, 249, 250, 264, 265, 266, 267, 57, 268, 269, 270, 271, 272, 273, 274, 275, 276, 86, 87, 277, 278, 279, 280, 298, 299, 300, 301, 643, 644, 645, 646, 647, 648, 649, 650, 491, 453, 454, 455, 20, 456, 98, 360, 361, 362, 24, 363, 354, 711, 712, 713, 714, 715, 716, 717, 718, 737, 747, 748, 749, 750, 751, 738, 739, 740, 741, 742, 743, 744, 745, 746] (by decide +kernel) (by decide +kernel)
set_option maxRecDepth 20000 in
theorem gL_law_X5_count : GoodIn wsL_law (wsV RL 100 RX5 yX5_count wsX5_count) := goodIn_app (goodIn_of _ (by decide +kernel)) ggL_law_X5_count
set_option maxRecDepth 20000 in
theorem ggL_law_X6_count : GoodIn wsL_law wsX6_count := goodIn_r _ [654, 77, 66, 148, 368, 149, 150, 151, 5, 152, 655, 656, 657, 658, 318, 319, 320, 321, 140, 141, 142, 143, 322, 323, 324, 325, 326, 327, 328, 329, 659, 660, 661, 662, 663, 664, 665, 666, 667, 668, 669, 670, 310, 311, 312, 313, 73, 314, 315, 316, 317, 71, 330, 331, 332, 333, 72, 334, 335, 336, 337, 338, 339, 340, 341, 342, 343, 344, 345, 671, 672, 673, 674, 719, 720, 721, 722, 723, 724, 725, 726, 727, 728, 729, 730, 731, 732, 733, 734, 735, 736] (by decide +kernel) (by decide +kernel)
set_option maxRecDepth 20000 in
theorem gL_law_X6_count : GoodIn wsL_law (wsV RL 103 RX6 yX6_count wsX6_count) := goodIn_app (goodIn_of _ (by decide +kernel)) ggL_law_X6_count
set_option maxRecDepth 20000 in
theorem ggL_law_X5_doneIn : GoodIn wsL_law wsX5_doneIn := goodIn_r _ [678, 15, 16, 679, 680, 681, 14, 682, 254, 89, 90, 91, 40, 92, 2, 93, 260, 261, 262, 263, 469, 470, 471, 472, 473, 101, 102, 103, 116, 117, 118, 119, 120, 121, 122, 123, 124, 125, 126, 234, 235, 236, 237, 29, 238, 239, 240, 28, 241, 55, 54, 242, 243, 244, 245, 56, 246, 247, 248, 249, 250, 251, 252, 253, 255, 256, 257, 258, 259, 170, 171, 172, 264, 265, 266, 267, 57, 268, 269, 270, 271, 272, 273, 274, 275, 276, 86, 87, 277, 278, 279, 280, 281, 282, 283, 284, 285, 286, 287, 288, 85, 289, 290, 291, 292, 293, 158, 159, 160, 294, 295, 296, 297, 298, 299, 300, 301, 201, 202, 711, 712, 713, 714, 715, 716, 717, 718, 737, 747, 748, 749, 750, 751] (by decide +kernel) (by decide +kernel)
set_option maxRecDepth 20000 in
theorem gL_law_X5_doneIn : GoodIn wsL_law (wsV RL 104 RX5 yX5_doneIn wsX5_doneIn) := goodIn_app (goodIn_of _ (by decide +kernel)) ggL_law_X5_doneIn
set_option maxRecDepth 20000 in
theorem ggL_law_X6_doneIn : GoodIn wsL_law wsX6_doneIn := goodIn_r _ [686, 77, 687, 688, 689, 5, 690, 67, 66, 149, 150, 151, 152, 306, 307, 308, 309, 73, 310, 311, 312, 313, 314, 315, 316, 317, 71, 318, 319, 320, 321, 140, 141, 142, 143, 322, 323, 324, 325, 326, 327, 328, 329, 330, 331, 332, 333, 72, 334, 335, 336, 337, 338, 339, 340, 341, 342, 343, 344, 345, 691, 692, 693, 694, 719, 720, 721, 722, 723, 724, 725, 726, 727, 728, 729, 730, 731, 732, 733, 734, 735, 736] (by decide +kernel) (by decide +kernel)
set_option maxRecDepth 20000 in
theorem gL_law_X6_doneIn : GoodIn wsL_law (wsV RL 107 RX6 yX6_doneIn wsX6_doneIn) := goodIn_app (goodIn_of _ (by decide +kernel)) ggL_law_X6_doneIn
set_option maxRecDepth 20000 in
theorem ggL_law_X5_bestLink : GoodIn wsL_law wsX5_bestLink := goodIn_r _ [698, 15, 16, 639, 640, 641, 2, 642, 29, 554, 243, 244, 28, 245, 54, 55, 56, 246, 247, 248, 249, 250, 251, 252, 14, 253, 254, 89, 90, 91, 40, 92, 93, 255, 256, 257, 258, 259, 170, 171, 172, 260, 261, 262, 263, 264, 265, 266, 267, 57, 268, 269, 270, 271, 272, 273, 274, 275, 276, 86, 87, 277, 278, 279, 280, 298, 299, 300, 301, 201, 202, 469, 470, 471, 472, 473, 101, 102, 103, 196, 197, 198, 199, 203, 204, 205, 206, 711, 712, 713, 714, 715, 716, 717, 718, 747, 748, 749, 750, 751, 737] (by decide +kernel) (by decide +kernel)
set_option maxRecDepth 20000 in
theorem gL_law_X5_bestLink : GoodIn wsL_law (wsV RL 108 RX5 yX5_bestLink wsX5_bestLink) := goodIn_app (goodIn_of _ (by decide +kernel)) ggL_law_X5_bestLink
set_option maxRecDepth 20000 in
theorem ggL_law_X6_bestLink : GoodIn wsL_law wsX6_bestLink := goodIn_r _ [702, 77, 66, 310, 311, 312, 5, 313, 73, 314, 315, 316, 317, 71, 318, 319, 320, 321, 140, 141, 142, 143, 322, 323, 324, 325, 326, 327, 328, 329, 330, 331, 332, 333, 72, 334, 335, 336, 337, 338, 339, 340, 341, 342, 343, 344, 345, 719, 720, 721, 722, 723, 724, 725, 726, 727, 728, 729, 730, 731, 732, 733, 734, 735, 736] (by decide +kernel) (by decide +kernel)
set_option maxRecDepth 20000 in
theorem gL_law_X6_bestLink : GoodIn wsL_law (wsV RL 111 RX6 yX6_bestLink wsX6_bestLink) := goodIn_app (goodIn_of _ (by decide +kernel)) ggL_law_X6_bestLink
set_option maxRecDepth 20000 in
theorem ggL_law_X5_mean : GoodIn wsL_law wsX5_mean := goodIn_r _ [706, 15, 635, 636, 637, 14, 638, 40, 626, 627, 628, 629, 630, 492, 493, 494, 495, 496, 497, 498, 254, 89, 90, 91, 92, 2, 93, 201, 202, 499, 251, 252, 253, 255, 256, 257, 258, 259, 170, 171, 172, 260, 261, 262, 263, 500, 501, 502, 503, 711, 712, 713, 714, 715, 716, 717, 718, 737] (by decide +kernel) (by decide +kernel)
set_option maxRecDepth 20000 in
theorem gL_law_X5_mean : GoodIn wsL_law (wsV RL 112 RX5 yX5_mean wsX5_mean) := goodIn_app (goodIn_of _ (by decide +kernel)) ggL_law_X5_mean
set_option maxRecDepth 20000 in
theorem ggL_law_X6_mean : GoodIn wsL_law wsX6_mean := goodIn_r _ [710, 77, 66, 667, 668, 669, 5, 670, 719, 720, 721, 722, 723, 724, 725, 726, 727, 728, 729, 730, 731, 732, 733, 734, 735, 736] (by decide +kernel) (by decide +kernel)
set_option maxRecDepth 20000 in
theorem gL_law_X6_mean : GoodIn wsL_law (wsV RL 116 RX6 yX6_mean wsX6_mean) := goodIn_app (goodIn_of _ (by decide +kernel)) ggL_law_X6_mean
theorem dL_law_0 : decode cL_law 0 = .ok (.new 7, 3) := by decide +kernel
theorem dL_law_3 : decode cL_law 3 = .ok (.dup, 1) := by decide +kernel
theorem dL_law_4 : decode cL_law 4 = .ok (.invokespecial 9, 3) := by decide +kernel
theorem dL_law_7 : decode cL_law 7 = .ok (.astore_n 1, 1) := by decide +kernel
theorem dL_law_8 : decode cL_law 8 = .ok (.new 10, 3) := by decide +kernel
theorem dL_law_11 : decode cL_law 11 = .ok (.dup, 1) := by decide +kernel
theorem dL_law_12 : decode cL_law 12 = .ok (.invokespecial 12, 3) := by decide +kernel
theorem dL_law_15 : decode cL_law 15 = .ok (.astore_n 2, 1) := by decide +kernel
theorem dL_law_16 : decode cL_law 16 = .ok (.iconst 0, 1) := by decide +kernel
theorem dL_law_17 : decode cL_law 17 = .ok (.istore_n 3, 1) := by decide +kernel
theorem dL_law_18 : decode cL_law 18 = .ok (.iload_n 3, 1) := by decide +kernel
theorem dL_law_19 : decode cL_law 19 = .ok (.aload_n 0, 1) := by decide +kernel
theorem dL_law_20 : decode cL_law 20 = .ok (.arraylength, 1) := by decide +kernel
theorem dL_law_21 : decode cL_law 21 = .ok (.iconst 4, 1) := by decide +kernel
theorem dL_law_22 : decode cL_law 22 = .ok (.isub, 1) := by decide +kernel
theorem dL_law_23 : decode cL_law 23 = .ok (.if_icmp .gt 821, 3) := by decide +kernel
theorem dL_law_26 : decode cL_law 26 = .ok (.aload_n 0, 1) := by decide +kernel
theorem dL_law_27 : decode cL_law 27 = .ok (.iload_n 3, 1) := by decide +kernel
theorem dL_law_28 : decode cL_law 28 = .ok (.iaload, 1) := by decide +kernel
theorem dL_law_29 : decode cL_law 29 = .ok (.bipush 31, 2) := by decide +kernel
theorem dL_law_31 : decode cL_law 31 = .ok (.iand, 1) := by decide +kernel
theorem dL_law_32 : decode cL_law 32 = .ok (.tableswitch 806 0 23 #[112, 145, 178, 221, 254, 313, 372, 385, 408, 421, 434, 447, 460, 473, 486, 545, 588, 621, 670, 683, 716, 739, 752, 765], 112) := by decide +kernel
theorem dL_law_144 : decode cL_law 144 = .ok (.aload_n 1, 1) := by decide +kernel
theorem dL_law_145 : decode cL_law 145 = .ok (.aload_n 0, 1) := by decide +kernel
theorem dL_law_146 : decode cL_law 146 = .ok (.iload_n 3, 1) := by decide +kernel
theorem dL_law_147 : decode cL_law 147 = .ok (.iconst 1, 1) := by decide +kernel
theorem dL_law_148 : decode cL_law 148 = .ok (.iadd, 1) := by decide +kernel
theorem dL_law_149 : decode cL_law 149 = .ok (.iaload, 1) := by decide +kernel
theorem dL_law_150 : decode cL_law 150 = .ok (.aload_n 0, 1) := by decide +kernel
theorem dL_law_151 : decode cL_law 151 = .ok (.iload_n 3, 1) := by decide +kernel
theorem dL_law_152 : decode cL_law 152 = .ok (.iconst 2, 1) := by decide +kernel
theorem dL_law_153 : decode cL_law 153 = .ok (.iadd, 1) := by decide +kernel
theorem dL_law_154 : decode cL_law 154 = .ok (.iaload, 1) := by decide +kernel
theorem dL_law_155 : decode cL_law 155 = .ok (.invokevirtual 13, 3) := by decide +kernel
theorem dL_law_158 : decode cL_law 158 = .ok (.aload_n 2, 1) := by decide +kernel
theorem dL_law_159 : decode cL_law 159 = .ok (.aload_n 0, 1) := by decide +kernel
theorem dL_law_160 : decode cL_law 160 = .ok (.iload_n 3, 1) := by decide +kernel
theorem dL_law_161 : decode cL_law 161 = .ok (.iconst 1, 1) := by decide +kernel
theorem dL_law_162 : decode cL_law 162 = .ok (.iadd, 1) := by decide +kernel
theorem dL_law_163 : decode cL_law 163 = .ok (.iaload, 1) := by decide +kernel
theorem dL_law_164 : decode cL_law 164 = .ok (.aload_n 0, 1) := by decide +kernel
theorem dL_law_165 : decode cL_law 165 = .ok (.iload_n 3, 1) := by decide +kernel
theorem dL_law_166 : decode cL_law 166 = .ok (.iconst 2, 1) := by decide +kernel
theorem dL_law_167 : decode cL_law 167 = .ok (.iadd, 1) := by decide +kernel
theorem dL_law_168 : decode cL_law 168 = .ok (.iaload, 1) := by decide +kernel
theorem dL_law_169 : decode cL_law 169 = .ok (.invokevirtual 17, 3) := by decide +kernel
theorem dL_law_172 : decode cL_law 172 = .ok (.if_icmp .eq 666, 3) := by decide +kernel
theorem dL_law_175 : decode cL_law 175 = .ok (.iconst 0, 1) := by decide +kernel
theorem dL_law_176 : decode cL_law 176 = .ok (.ireturn, 1) := by decide +kernel
theorem dL_law_177 : decode cL_law 177 = .ok (.aload_n 1, 1) := by decide +kernel
theorem dL_law_178 : decode cL_law 178 = .ok (.aload_n 0, 1) := by decide +kernel
theorem dL_law_179 : decode cL_law 179 = .ok (.iload_n 3, 1) := by decide +kernel
theorem dL_law_180 : decode cL_law 180 = .ok (.iconst 1, 1) := by decide +kernel
theorem dL_law_181 : decode cL_law 181 = .ok (.iadd, 1) := by decide +kernel
theorem dL_law_182 : decode cL_law 182 = .ok (.iaload, 1) := by decide +kernel
theorem dL_law_183 : decode cL_law 183 = .ok (.aload_n 0, 1) := by decide +kernel
theorem dL_law_184 : decode cL_law 184 = .ok (.iload_n 3, 1) := by decide +kernel
theorem dL_law_185 : decode cL_law 185 = .ok (.iconst 2, 1) := by decide +kernel
theorem dL_law_186 : decode cL_law 186 = .ok (.iadd, 1) := by decide +kernel
theorem dL_law_187 : decode cL_law 187 = .ok (.iaload, 1) := by decide +kernel
theorem dL_law_188 : decode cL_law 188 = .ok (.invokevirtual 18, 3) := by decide +kernel
theorem dL_law_191 : decode cL_law 191 = .ok (.aload_n 2, 1) := by decide +kernel
theorem dL_law_192 : decode cL_law 192 = .ok (.aload_n 0, 1) := by decide +kernel
theorem dL_law_193 : decode cL_law 193 = .ok (.iload_n 3, 1) := by decide +kernel
theorem dL_law_194 : decode cL_law 194 = .ok (.iconst 1, 1) := by decide +kernel
theorem dL_law_195 : decode cL_law 195 = .ok (.iadd, 1) := by decide +kernel
theorem dL_law_196 : decode cL_law 196 = .ok (.iaload, 1) := by decide +kernel
theorem dL_law_197 : decode cL_law 197 = .ok (.aload_n 0, 1) := by decide +kernel
theorem dL_law_198 : decode cL_law 198 = .ok (.iload_n 3, 1) := by decide +kernel
theorem dL_law_199 : decode cL_law 199 = .ok (.iconst 2, 1) := by decide +kernel
theorem dL_law_200 : decode cL_law 200 = .ok (.iadd, 1) := by decide +kernel
theorem dL_law_201 : decode cL_law 201 = .ok (.iaload, 1) := by decide +kernel
theorem dL_law_202 : decode cL_law 202 = .ok (.invokevirtual 21, 3) := by decide +kernel
theorem dL_law_205 : decode cL_law 205 = .ok (.if_icmp .eq 633, 3) := by decide +kernel
theorem dL_law_208 : decode cL_law 208 = .ok (.iconst 0, 1) := by decide +kernel
theorem dL_law_209 : decode cL_law 209 = .ok (.ireturn, 1) := by decide +kernel
theorem dL_law_210 : decode cL_law 210 = .ok (.aload_n 1, 1) := by decide +kernel
theorem dL_law_211 : decode cL_law 211 = .ok (.aload_n 0, 1) := by decide +kernel
theorem dL_law_212 : decode cL_law 212 = .ok (.iload_n 3, 1) := by decide +kernel
theorem dL_law_213 : decode cL_law 213 = .ok (.iconst 1, 1) := by decide +kernel
theorem dL_law_214 : decode cL_law 214 = .ok (.iadd, 1) := by decide +kernel
theorem dL_law_215 : decode cL_law 215 = .ok (.iaload, 1) := by decide +kernel
theorem dL_law_216 : decode cL_law 216 = .ok (.aload_n 0, 1) := by decide +kernel
theorem dL_law_217 : decode cL_law 217 = .ok (.iload_n 3, 1) := by decide +kernel
theorem dL_law_218 : decode cL_law 218 = .ok (.iconst 2, 1) := by decide +kernel
theorem dL_law_219 : decode cL_law 219 = .ok (.iadd, 1) := by decide +kernel
theorem dL_law_220 : decode cL_law 220 = .ok (.iaload, 1) := by decide +kernel
theorem dL_law_221 : decode cL_law 221 = .ok (.aload_n 0, 1) := by decide +kernel
theorem dL_law_222 : decode cL_law 222 = .ok (.iload_n 3, 1) := by decide +kernel
theorem dL_law_223 : decode cL_law 223 = .ok (.iconst 3, 1) := by decide +kernel
theorem dL_law_224 : decode cL_law 224 = .ok (.iadd, 1) := by decide +kernel
theorem dL_law_225 : decode cL_law 225 = .ok (.iaload, 1) := by decide +kernel
theorem dL_law_226 : decode cL_law 226 = .ok (.invokevirtual 22, 3) := by decide +kernel
theorem dL_law_229 : decode cL_law 229 = .ok (.aload_n 2, 1) := by decide +kernel
theorem dL_law_230 : decode cL_law 230 = .ok (.aload_n 0, 1) := by decide +kernel
theorem dL_law_231 : decode cL_law 231 = .ok (.iload_n 3, 1) := by decide +kernel
theorem dL_law_232 : decode cL_law 232 = .ok (.iconst 1, 1) := by decide +kernel
theorem dL_law_233 : decode cL_law 233 = .ok (.iadd, 1) := by decide +kernel
theorem dL_law_234 : decode cL_law 234 = .ok (.iaload, 1) := by decide +kernel
theorem dL_law_235 : decode cL_law 235 = .ok (.aload_n 0, 1) := by decide +kernel
theorem dL_law_236 : decode cL_law 236 = .ok (.iload_n 3, 1) := by decide +kernel
theorem dL_law_237 : decode cL_law 237 = .ok (.iconst 2, 1) := by decide +kernel
theorem dL_law_238 : decode cL_law 238 = .ok (.iadd, 1) := by decide +kernel
theorem dL_law_239 : decode cL_law 239 = .ok (.iaload, 1) := by decide +kernel
theorem dL_law_240 : decode cL_law 240 = .ok (.aload_n 0, 1) := by decide +kernel
theorem dL_law_241 : decode cL_law 241 = .ok (.iload_n 3, 1) := by decide +kernel
