theorem dX6_move_26 : decode cX6_move 26 = .ok (.iload_n 1, 1) := by decide +kernel
theorem dX6_move_27 : decode cX6_move 27 = .ok (.ifCond .eq 7, 3) := by decide +kernel
theorem dX6_move_30 : decode cX6_move 30 = .ok (.iconst 0, 1) := by decide +kernel
theorem dX6_move_31 : decode cX6_move 31 = .ok (.goto 5, 3) := by decide +kernel
theorem dX6_move_34 : decode cX6_move 34 = .ok (.bipush 8, 2) := by decide +kernel
theorem dX6_move_36 : decode cX6_move 36 = .ok (.iadd, 1) := by decide +kernel
theorem dX6_move_37 : decode cX6_move 37 = .ok (.iload_n 2, 1) := by decide +kernel
theorem dX6_move_38 : decode cX6_move 38 = .ok (.iadd, 1) := by decide +kernel
theorem dX6_move_39 : decode cX6_move 39 = .ok (.istore 4, 2) := by decide +kernel
theorem dX6_move_41 : decode cX6_move 41 = .ok (.aload_n 0, 1) := by decide +kernel
theorem dX6_move_42 : decode cX6_move 42 = .ok (.getfield 7, 3) := by decide +kernel
theorem dX6_move_45 : decode cX6_move 45 = .ok (.iload 4, 2) := by decide +kernel
theorem dX6_move_47 : decode cX6_move 47 = .ok (.iaload, 1) := by decide +kernel
theorem dX6_move_48 : decode cX6_move 48 = .ok (.istore 5, 2) := by decide +kernel
theorem dX6_move_50 : decode cX6_move 50 = .ok (.aload_n 0, 1) := by decide +kernel
theorem dX6_move_51 : decode cX6_move 51 = .ok (.getfield 7, 3) := by decide +kernel
theorem dX6_move_54 : decode cX6_move 54 = .ok (.iload 4, 2) := by decide +kernel
theorem dX6_move_56 : decode cX6_move 56 = .ok (.iload_n 3, 1) := by decide +kernel
theorem dX6_move_57 : decode cX6_move 57 = .ok (.iastore, 1) := by decide +kernel
theorem dX6_move_58 : decode cX6_move 58 = .ok (.iload 5, 2) := by decide +kernel
theorem dX6_move_60 : decode cX6_move 60 = .ok (.ireturn, 1) := by decide +kernel
set_option maxRecDepth 20000 in
theorem ggX6_shakes_X6_matches : GoodIn wsX6_shakes wsX6_matches := goodIn_r _ [7, 1, 8, 9, 10, 6, 11, 12, 13, 14, 15, 16, 17, 18, 19, 20, 2, 21, 22, 23, 24, 25, 26, 27, 28, 29, 30, 31, 32, 33, 34, 35, 36, 37, 38, 39, 40, 41, 42, 43, 44, 45, 46, 47, 48, 49, 50, 51, 52, 53, 54, 55, 56, 57, 58, 59, 60, 61, 62, 63] (by decide +kernel) (by decide +kernel)
set_option maxRecDepth 20000 in
theorem gX6_shakes_X6_matches : GoodIn wsX6_shakes (wsV RX6 101 RX6 yX6_matches wsX6_matches) := goodIn_app (goodIn_of _ (by decide +kernel)) ggX6_shakes_X6_matches
theorem dX6_shakes_0 : decode cX6_shakes 0 = .ok (.aload_n 0, 1) := by decide +kernel
theorem dX6_shakes_1 : decode cX6_shakes 1 = .ok (.invokevirtual 101, 3) := by decide +kernel
theorem dX6_shakes_4 : decode cX6_shakes 4 = .ok (.istore_n 1, 1) := by decide +kernel
theorem dX6_shakes_5 : decode cX6_shakes 5 = .ok (.iconst 0, 1) := by decide +kernel
theorem dX6_shakes_6 : decode cX6_shakes 6 = .ok (.istore_n 2, 1) := by decide +kernel
theorem dX6_shakes_7 : decode cX6_shakes 7 = .ok (.iload_n 2, 1) := by decide +kernel
theorem dX6_shakes_8 : decode cX6_shakes 8 = .ok (.bipush 8, 2) := by decide +kernel
theorem dX6_shakes_10 : decode cX6_shakes 10 = .ok (.if_icmp .ge 64, 3) := by decide +kernel
theorem dX6_shakes_13 : decode cX6_shakes 13 = .ok (.aload_n 0, 1) := by decide +kernel
theorem dX6_shakes_14 : decode cX6_shakes 14 = .ok (.getfield 31, 3) := by decide +kernel
theorem dX6_shakes_17 : decode cX6_shakes 17 = .ok (.iload_n 2, 1) := by decide +kernel
theorem dX6_shakes_18 : decode cX6_shakes 18 = .ok (.iaload, 1) := by decide +kernel
theorem dX6_shakes_19 : decode cX6_shakes 19 = .ok (.bipush (-5), 2) := by decide +kernel
theorem dX6_shakes_21 : decode cX6_shakes 21 = .ok (.if_icmp .eq 47, 3) := by decide +kernel
theorem dX6_shakes_24 : decode cX6_shakes 24 = .ok (.aload_n 0, 1) := by decide +kernel
theorem dX6_shakes_25 : decode cX6_shakes 25 = .ok (.getfield 7, 3) := by decide +kernel
theorem dX6_shakes_28 : decode cX6_shakes 28 = .ok (.bipush 97, 2) := by decide +kernel
theorem dX6_shakes_30 : decode cX6_shakes 30 = .ok (.bipush 8, 2) := by decide +kernel
theorem dX6_shakes_32 : decode cX6_shakes 32 = .ok (.iload_n 2, 1) := by decide +kernel
theorem dX6_shakes_33 : decode cX6_shakes 33 = .ok (.imul, 1) := by decide +kernel
theorem dX6_shakes_34 : decode cX6_shakes 34 = .ok (.iadd, 1) := by decide +kernel
theorem dX6_shakes_35 : decode cX6_shakes 35 = .ok (.aload_n 0, 1) := by decide +kernel
theorem dX6_shakes_36 : decode cX6_shakes 36 = .ok (.getfield 31, 3) := by decide +kernel
theorem dX6_shakes_39 : decode cX6_shakes 39 = .ok (.iload_n 2, 1) := by decide +kernel
theorem dX6_shakes_40 : decode cX6_shakes 40 = .ok (.iaload, 1) := by decide +kernel
theorem dX6_shakes_41 : decode cX6_shakes 41 = .ok (.iadd, 1) := by decide +kernel
theorem dX6_shakes_42 : decode cX6_shakes 42 = .ok (.iconst 0, 1) := by decide +kernel
theorem dX6_shakes_43 : decode cX6_shakes 43 = .ok (.iastore, 1) := by decide +kernel
theorem dX6_shakes_44 : decode cX6_shakes 44 = .ok (.aload_n 0, 1) := by decide +kernel
theorem dX6_shakes_45 : decode cX6_shakes 45 = .ok (.getfield 7, 3) := by decide +kernel
theorem dX6_shakes_48 : decode cX6_shakes 48 = .ok (.sipush 161, 3) := by decide +kernel
theorem dX6_shakes_51 : decode cX6_shakes 51 = .ok (.bipush 8, 2) := by decide +kernel
theorem dX6_shakes_53 : decode cX6_shakes 53 = .ok (.iload_n 2, 1) := by decide +kernel
theorem dX6_shakes_54 : decode cX6_shakes 54 = .ok (.imul, 1) := by decide +kernel
theorem dX6_shakes_55 : decode cX6_shakes 55 = .ok (.iadd, 1) := by decide +kernel
theorem dX6_shakes_56 : decode cX6_shakes 56 = .ok (.aload_n 0, 1) := by decide +kernel
theorem dX6_shakes_57 : decode cX6_shakes 57 = .ok (.getfield 31, 3) := by decide +kernel
theorem dX6_shakes_60 : decode cX6_shakes 60 = .ok (.iload_n 2, 1) := by decide +kernel
theorem dX6_shakes_61 : decode cX6_shakes 61 = .ok (.iaload, 1) := by decide +kernel
theorem dX6_shakes_62 : decode cX6_shakes 62 = .ok (.iadd, 1) := by decide +kernel
theorem dX6_shakes_63 : decode cX6_shakes 63 = .ok (.dup2, 1) := by decide +kernel
theorem dX6_shakes_64 : decode cX6_shakes 64 = .ok (.iaload, 1) := by decide +kernel
theorem dX6_shakes_65 : decode cX6_shakes 65 = .ok (.iconst 1, 1) := by decide +kernel
theorem dX6_shakes_66 : decode cX6_shakes 66 = .ok (.iadd, 1) := by decide +kernel
theorem dX6_shakes_67 : decode cX6_shakes 67 = .ok (.iastore, 1) := by decide +kernel
theorem dX6_shakes_68 : decode cX6_shakes 68 = .ok (.iinc 2 1, 3) := by decide +kernel
theorem dX6_shakes_71 : decode cX6_shakes 71 = .ok (.goto (-64), 3) := by decide +kernel
theorem dX6_shakes_74 : decode cX6_shakes 74 = .ok (.iconst 0, 1) := by decide +kernel
theorem dX6_shakes_75 : decode cX6_shakes 75 = .ok (.istore_n 2, 1) := by decide +kernel
theorem dX6_shakes_76 : decode cX6_shakes 76 = .ok (.iload_n 2, 1) := by decide +kernel
theorem dX6_shakes_77 : decode cX6_shakes 77 = .ok (.bipush 64, 2) := by decide +kernel
theorem dX6_shakes_79 : decode cX6_shakes 79 = .ok (.if_icmp .ge 38, 3) := by decide +kernel
theorem dX6_shakes_82 : decode cX6_shakes 82 = .ok (.aload_n 0, 1) := by decide +kernel
theorem dX6_shakes_83 : decode cX6_shakes 83 = .ok (.getfield 7, 3) := by decide +kernel
theorem dX6_shakes_86 : decode cX6_shakes 86 = .ok (.bipush 33, 2) := by decide +kernel
theorem dX6_shakes_88 : decode cX6_shakes 88 = .ok (.iload_n 2, 1) := by decide +kernel
theorem dX6_shakes_89 : decode cX6_shakes 89 = .ok (.iadd, 1) := by decide +kernel
theorem dX6_shakes_90 : decode cX6_shakes 90 = .ok (.dup2, 1) := by decide +kernel
theorem dX6_shakes_91 : decode cX6_shakes 91 = .ok (.iaload, 1) := by decide +kernel
theorem dX6_shakes_92 : decode cX6_shakes 92 = .ok (.aload_n 0, 1) := by decide +kernel
theorem dX6_shakes_93 : decode cX6_shakes 93 = .ok (.getfield 7, 3) := by decide +kernel
theorem dX6_shakes_96 : decode cX6_shakes 96 = .ok (.bipush 33, 2) := by decide +kernel
theorem dX6_shakes_98 : decode cX6_shakes 98 = .ok (.iload_n 2, 1) := by decide +kernel
theorem dX6_shakes_99 : decode cX6_shakes 99 = .ok (.iadd, 1) := by decide +kernel
theorem dX6_shakes_100 : decode cX6_shakes 100 = .ok (.iaload, 1) := by decide +kernel
theorem dX6_shakes_101 : decode cX6_shakes 101 = .ok (.ifCond .le 7, 3) := by decide +kernel
theorem dX6_shakes_104 : decode cX6_shakes 104 = .ok (.iconst 1, 1) := by decide +kernel
theorem dX6_shakes_105 : decode cX6_shakes 105 = .ok (.goto 4, 3) := by decide +kernel
theorem dX6_shakes_108 : decode cX6_shakes 108 = .ok (.iconst 0, 1) := by decide +kernel
theorem dX6_shakes_109 : decode cX6_shakes 109 = .ok (.isub, 1) := by decide +kernel
theorem dX6_shakes_110 : decode cX6_shakes 110 = .ok (.iastore, 1) := by decide +kernel
theorem dX6_shakes_111 : decode cX6_shakes 111 = .ok (.iinc 2 1, 3) := by decide +kernel
theorem dX6_shakes_114 : decode cX6_shakes 114 = .ok (.goto (-38), 3) := by decide +kernel
theorem dX6_shakes_117 : decode cX6_shakes 117 = .ok (.aload_n 0, 1) := by decide +kernel
theorem dX6_shakes_118 : decode cX6_shakes 118 = .ok (.getfield 7, 3) := by decide +kernel
theorem dX6_shakes_121 : decode cX6_shakes 121 = .ok (.iconst 0, 1) := by decide +kernel
theorem dX6_shakes_122 : decode cX6_shakes 122 = .ok (.dup2, 1) := by decide +kernel
theorem dX6_shakes_123 : decode cX6_shakes 123 = .ok (.iaload, 1) := by decide +kernel
theorem dX6_shakes_124 : decode cX6_shakes 124 = .ok (.iconst 1, 1) := by decide +kernel
theorem dX6_shakes_125 : decode cX6_shakes 125 = .ok (.iadd, 1) := by decide +kernel
theorem dX6_shakes_126 : decode cX6_shakes 126 = .ok (.iastore, 1) := by decide +kernel
theorem dX6_shakes_127 : decode cX6_shakes 127 = .ok (.iload_n 1, 1) := by decide +kernel
theorem dX6_shakes_128 : decode cX6_shakes 128 = .ok (.ireturn, 1) := by decide +kernel
set_option maxRecDepth 20000 in
theorem ggX6_round_X6_records : GoodIn wsX6_round wsX6_records := goodIn_r _ [6, 7, 8, 9, 57, 58, 59, 60, 61, 62, 63, 64, 65, 66, 67, 68, 69, 70, 71, 72, 73, 74] (by decide +kernel) (by decide +kernel)
set_option maxRecDepth 20000 in
theorem gX6_round_X6_records : GoodIn wsX6_round (wsV RX6 92 RX6 yX6_records wsX6_records) := goodIn_app (goodIn_of _ (by decide +kernel)) ggX6_round_X6_records
set_option maxRecDepth 20000 in
theorem ggX6_round_X6_shakes : GoodIn wsX6_round wsX6_shakes := goodIn_r _ [13, 14, 9, 15, 16, 17, 5, 18, 19, 20, 21, 22, 23, 24, 25, 26, 27, 28, 29, 30, 31, 32, 33, 34, 35, 36, 37, 38, 39, 40, 41, 42, 43, 44, 45, 46, 47, 48, 49, 50, 51, 52, 53, 54, 55, 56, 57, 58, 59, 60, 61, 62, 63, 64, 65, 66, 67, 68, 69, 70, 71, 72, 73, 74] (by decide +kernel) (by decide +kernel)
set_option maxRecDepth 20000 in
theorem gX6_round_X6_shakes : GoodIn wsX6_round (wsV RX6 104 RX6 yX6_shakes wsX6_shakes) := goodIn_app (goodIn_of _ (by decide +kernel)) ggX6_round_X6_shakes
theorem dX6_round_0 : decode cX6_round 0 = .ok (.aload_n 0, 1) := by decide +kernel
theorem dX6_round_1 : decode cX6_round 1 = .ok (.iconst 0, 1) := by decide +kernel
theorem dX6_round_2 : decode cX6_round 2 = .ok (.putfield 43, 3) := by decide +kernel
theorem dX6_round_5 : decode cX6_round 5 = .ok (.aload_n 0, 1) := by decide +kernel
theorem dX6_round_6 : decode cX6_round 6 = .ok (.invokevirtual 92, 3) := by decide +kernel
theorem dX6_round_9 : decode cX6_round 9 = .ok (.aload_n 0, 1) := by decide +kernel
theorem dX6_round_10 : decode cX6_round 10 = .ok (.invokevirtual 104, 3) := by decide +kernel
theorem dX6_round_13 : decode cX6_round 13 = .ok (.ireturn, 1) := by decide +kernel
set_option maxRecDepth 20000 in
theorem ggX6_append_X6_in : GoodIn wsX6_append wsX6_in := goodIn_r _ [7] (by decide +kernel) (by decide +kernel)
set_option maxRecDepth 20000 in
theorem gX6_append_X6_in : GoodIn wsX6_append (va_wsS RX6 47 yX6_in wsX6_in) := goodIn_app (goodIn_of _ (by decide +kernel)) ggX6_append_X6_in
theorem dX6_append_0 : decode cX6_append 0 = .ok (.aload_n 0, 1) := by decide +kernel
theorem dX6_append_1 : decode cX6_append 1 = .ok (.iconst 0, 1) := by decide +kernel
theorem dX6_append_2 : decode cX6_append 2 = .ok (.putfield 43, 3) := by decide +kernel
theorem dX6_append_5 : decode cX6_append 5 = .ok (.iload_n 1, 1) := by decide +kernel
theorem dX6_append_6 : decode cX6_append 6 = .ok (.bipush 32, 2) := by decide +kernel
theorem dX6_append_8 : decode cX6_append 8 = .ok (.bipush 126, 2) := by decide +kernel
theorem dX6_append_10 : decode cX6_append 10 = .ok (.invokestatic 47, 3) := by decide +kernel
theorem dX6_append_13 : decode cX6_append 13 = .ok (.ifCond .ne 6, 3) := by decide +kernel
theorem dX6_append_16 : decode cX6_append 16 = .ok (.bipush (-2), 2) := by decide +kernel
theorem dX6_append_18 : decode cX6_append 18 = .ok (.ireturn, 1) := by decide +kernel
theorem dX6_append_19 : decode cX6_append 19 = .ok (.aload_n 0, 1) := by decide +kernel
theorem dX6_append_20 : decode cX6_append 20 = .ok (.getfield 107, 3) := by decide +kernel
theorem dX6_append_23 : decode cX6_append 23 = .ok (.bipush 80, 2) := by decide +kernel
theorem dX6_append_25 : decode cX6_append 25 = .ok (.if_icmp .ne 6, 3) := by decide +kernel
theorem dX6_append_28 : decode cX6_append 28 = .ok (.bipush (-3), 2) := by decide +kernel
theorem dX6_append_30 : decode cX6_append 30 = .ok (.ireturn, 1) := by decide +kernel
theorem dX6_append_31 : decode cX6_append 31 = .ok (.aload_n 0, 1) := by decide +kernel
theorem dX6_append_32 : decode cX6_append 32 = .ok (.getfield 22, 3) := by decide +kernel
theorem dX6_append_35 : decode cX6_append 35 = .ok (.aload_n 0, 1) := by decide +kernel
theorem dX6_append_36 : decode cX6_append 36 = .ok (.getfield 107, 3) := by decide +kernel
theorem dX6_append_39 : decode cX6_append 39 = .ok (.iload_n 1, 1) := by decide +kernel
theorem dX6_append_40 : decode cX6_append 40 = .ok (.iastore, 1) := by decide +kernel
theorem dX6_append_41 : decode cX6_append 41 = .ok (.aload_n 0, 1) := by decide +kernel
theorem dX6_append_42 : decode cX6_append 42 = .ok (.dup, 1) := by decide +kernel
theorem dX6_append_43 : decode cX6_append 43 = .ok (.getfield 107, 3) := by decide +kernel
theorem dX6_append_46 : decode cX6_append 46 = .ok (.iconst 1, 1) := by decide +kernel
theorem dX6_append_47 : decode cX6_append 47 = .ok (.iadd, 1) := by decide +kernel
theorem dX6_append_48 : decode cX6_append 48 = .ok (.putfield 107, 3) := by decide +kernel
theorem dX6_append_51 : decode cX6_append 51 = .ok (.aload_n 0, 1) := by decide +kernel
theorem dX6_append_52 : decode cX6_append 52 = .ok (.getfield 107, 3) := by decide +kernel
theorem dX6_append_55 : decode cX6_append 55 = .ok (.ireturn, 1) := by decide +kernel
theorem dX6_clearText_0 : decode cX6_clearText 0 = .ok (.aload_n 0, 1) := by decide +kernel
theorem dX6_clearText_1 : decode cX6_clearText 1 = .ok (.iconst 0, 1) := by decide +kernel
theorem dX6_clearText_2 : decode cX6_clearText 2 = .ok (.putfield 43, 3) := by decide +kernel
theorem dX6_clearText_5 : decode cX6_clearText 5 = .ok (.aload_n 0, 1) := by decide +kernel
theorem dX6_clearText_6 : decode cX6_clearText 6 = .ok (.getfield 107, 3) := by decide +kernel
theorem dX6_clearText_9 : decode cX6_clearText 9 = .ok (.istore_n 1, 1) := by decide +kernel
theorem dX6_clearText_10 : decode cX6_clearText 10 = .ok (.aload_n 0, 1) := by decide +kernel
theorem dX6_clearText_11 : decode cX6_clearText 11 = .ok (.iconst 0, 1) := by decide +kernel
theorem dX6_clearText_12 : decode cX6_clearText 12 = .ok (.putfield 107, 3) := by decide +kernel
theorem dX6_clearText_15 : decode cX6_clearText 15 = .ok (.iload_n 1, 1) := by decide +kernel
theorem dX6_clearText_16 : decode cX6_clearText 16 = .ok (.ireturn, 1) := by decide +kernel
theorem dX6_sign_0 : decode cX6_sign 0 = .ok (.aload_n 0, 1) := by decide +kernel
theorem dX6_sign_1 : decode cX6_sign 1 = .ok (.getfield 110, 3) := by decide +kernel
theorem dX6_sign_4 : decode cX6_sign 4 = .ok (.aload_n 0, 1) := by decide +kernel
theorem dX6_sign_5 : decode cX6_sign 5 = .ok (.getfield 107, 3) := by decide +kernel
theorem dX6_sign_8 : decode cX6_sign 8 = .ok (.if_icmp .ge 15, 3) := by decide +kernel
theorem dX6_sign_11 : decode cX6_sign 11 = .ok (.aload_n 0, 1) := by decide +kernel
theorem dX6_sign_12 : decode cX6_sign 12 = .ok (.getfield 22, 3) := by decide +kernel
theorem dX6_sign_15 : decode cX6_sign 15 = .ok (.aload_n 0, 1) := by decide +kernel
theorem dX6_sign_16 : decode cX6_sign 16 = .ok (.getfield 110, 3) := by decide +kernel
theorem dX6_sign_19 : decode cX6_sign 19 = .ok (.iaload, 1) := by decide +kernel
theorem dX6_sign_20 : decode cX6_sign 20 = .ok (.goto 4, 3) := by decide +kernel
theorem dX6_sign_23 : decode cX6_sign 23 = .ok (.iconst 0, 1) := by decide +kernel
theorem dX6_sign_24 : decode cX6_sign 24 = .ok (.ireturn, 1) := by decide +kernel
set_option maxRecDepth 20000 in
theorem ggX6_people_X6_sign : GoodIn wsX6_people wsX6_sign := goodIn_r _ [7, 2, 8, 9, 13, 14, 15, 16, 17, 18, 19, 20, 21, 22, 23, 24, 25, 26, 27, 28, 29, 30] (by decide +kernel) (by decide +kernel)
set_option maxRecDepth 20000 in
theorem gX6_people_X6_sign : GoodIn wsX6_people (wsV RX6 117 RX6 yX6_sign wsX6_sign) := goodIn_app (goodIn_of _ (by decide +kernel)) ggX6_people_X6_sign
set_option maxRecDepth 20000 in
theorem ggX6_people_X6_in : GoodIn wsX6_people wsX6_in := goodIn_r _ [12] (by decide +kernel) (by decide +kernel)
set_option maxRecDepth 20000 in
theorem gX6_people_X6_in : GoodIn wsX6_people (va_wsS RX6 47 yX6_in wsX6_in) := goodIn_app (goodIn_of _ (by decide +kernel)) ggX6_people_X6_in
theorem dX6_people_0 : decode cX6_people 0 = .ok (.iconst 0, 1) := by decide +kernel
theorem dX6_people_1 : decode cX6_people 1 = .ok (.istore_n 1, 1) := by decide +kernel
theorem dX6_people_2 : decode cX6_people 2 = .ok (.aload_n 0, 1) := by decide +kernel
theorem dX6_people_3 : decode cX6_people 3 = .ok (.aload_n 0, 1) := by decide +kernel
theorem dX6_people_4 : decode cX6_people 4 = .ok (.getfield 113, 3) := by decide +kernel
theorem dX6_people_7 : decode cX6_people 7 = .ok (.ifCond .eq 21, 3) := by decide +kernel
theorem dX6_people_10 : decode cX6_people 10 = .ok (.aload_n 0, 1) := by decide +kernel
theorem dX6_people_11 : decode cX6_people 11 = .ok (.invokevirtual 117, 3) := by decide +kernel
theorem dX6_people_14 : decode cX6_people 14 = .ok (.bipush 48, 2) := by decide +kernel
theorem dX6_people_16 : decode cX6_people 16 = .ok (.bipush 55, 2) := by decide +kernel
theorem dX6_people_18 : decode cX6_people 18 = .ok (.invokestatic 47, 3) := by decide +kernel
theorem dX6_people_21 : decode cX6_people 21 = .ok (.ifCond .eq 7, 3) := by decide +kernel
theorem dX6_people_24 : decode cX6_people 24 = .ok (.iconst 1, 1) := by decide +kernel
theorem dX6_people_25 : decode cX6_people 25 = .ok (.goto 4, 3) := by decide +kernel
theorem dX6_people_28 : decode cX6_people 28 = .ok (.iconst 0, 1) := by decide +kernel
theorem dX6_people_29 : decode cX6_people 29 = .ok (.putfield 113, 3) := by decide +kernel
theorem dX6_people_32 : decode cX6_people 32 = .ok (.aload_n 0, 1) := by decide +kernel
theorem dX6_people_33 : decode cX6_people 33 = .ok (.getfield 113, 3) := by decide +kernel
theorem dX6_people_36 : decode cX6_people 36 = .ok (.ifCond .eq 54, 3) := by decide +kernel
theorem dX6_people_39 : decode cX6_people 39 = .ok (.aload_n 0, 1) := by decide +kernel
theorem dX6_people_40 : decode cX6_people 40 = .ok (.invokevirtual 117, 3) := by decide +kernel
theorem dX6_people_43 : decode cX6_people 43 = .ok (.bipush 48, 2) := by decide +kernel
theorem dX6_people_45 : decode cX6_people 45 = .ok (.bipush 55, 2) := by decide +kernel
theorem dX6_people_47 : decode cX6_people 47 = .ok (.invokestatic 47, 3) := by decide +kernel
theorem dX6_people_50 : decode cX6_people 50 = .ok (.ifCond .eq 40, 3) := by decide +kernel
theorem dX6_people_53 : decode cX6_people 53 = .ok (.iload_n 1, 1) := by decide +kernel
theorem dX6_people_54 : decode cX6_people 54 = .ok (.aload_n 0, 1) := by decide +kernel
theorem dX6_people_55 : decode cX6_people 55 = .ok (.invokevirtual 117, 3) := by decide +kernel
theorem dX6_people_58 : decode cX6_people 58 = .ok (.bipush 48, 2) := by decide +kernel
theorem dX6_people_60 : decode cX6_people 60 = .ok (.isub, 1) := by decide +kernel
theorem dX6_people_61 : decode cX6_people 61 = .ok (.ishr, 1) := by decide +kernel
theorem dX6_people_62 : decode cX6_people 62 = .ok (.ifCond .ne 28, 3) := by decide +kernel
theorem dX6_people_65 : decode cX6_people 65 = .ok (.iload_n 1, 1) := by decide +kernel
theorem dX6_people_66 : decode cX6_people 66 = .ok (.iconst 1, 1) := by decide +kernel
theorem dX6_people_67 : decode cX6_people 67 = .ok (.aload_n 0, 1) := by decide +kernel
theorem dX6_people_68 : decode cX6_people 68 = .ok (.invokevirtual 117, 3) := by decide +kernel
theorem dX6_people_71 : decode cX6_people 71 = .ok (.bipush 48, 2) := by decide +kernel
theorem dX6_people_73 : decode cX6_people 73 = .ok (.isub, 1) := by decide +kernel
theorem dX6_people_74 : decode cX6_people 74 = .ok (.ishl, 1) := by decide +kernel
theorem dX6_people_75 : decode cX6_people 75 = .ok (.ior, 1) := by decide +kernel
theorem dX6_people_76 : decode cX6_people 76 = .ok (.istore_n 1, 1) := by decide +kernel
theorem dX6_people_77 : decode cX6_people 77 = .ok (.aload_n 0, 1) := by decide +kernel
theorem dX6_people_78 : decode cX6_people 78 = .ok (.dup, 1) := by decide +kernel
theorem dX6_people_79 : decode cX6_people 79 = .ok (.getfield 110, 3) := by decide +kernel
theorem dX6_people_82 : decode cX6_people 82 = .ok (.iconst 1, 1) := by decide +kernel
theorem dX6_people_83 : decode cX6_people 83 = .ok (.iadd, 1) := by decide +kernel
theorem dX6_people_84 : decode cX6_people 84 = .ok (.putfield 110, 3) := by decide +kernel
theorem dX6_people_87 : decode cX6_people 87 = .ok (.goto (-55), 3) := by decide +kernel
theorem dX6_people_90 : decode cX6_people 90 = .ok (.iload_n 1, 1) := by decide +kernel
theorem dX6_people_91 : decode cX6_people 91 = .ok (.ireturn, 1) := by decide +kernel
set_option maxRecDepth 20000 in
theorem ggX6_readsGroup_X6_people : GoodIn wsX6_readsGroup wsX6_people := goodIn_r _ [9, 1, 4, 10, 11, 12, 8, 13, 14, 15, 16, 17, 18, 19, 20, 21, 22, 23, 24, 25, 26, 27, 28, 29, 30, 31, 32, 33, 34, 35, 36] (by decide +kernel) (by decide +kernel)
set_option maxRecDepth 20000 in
theorem gX6_readsGroup_X6_people : GoodIn wsX6_readsGroup (wsV RX6 123 RX6 yX6_people wsX6_people) := goodIn_app (goodIn_of _ (by decide +kernel)) ggX6_readsGroup_X6_people
set_option maxRecDepth 20000 in
theorem ggX6_readsGroup_X6_sign : GoodIn wsX6_readsGroup wsX6_sign := goodIn_r _ [13, 4, 14, 15, 19, 20, 21, 22, 23, 24, 25, 26, 27, 28, 29, 30, 31, 32, 33, 34, 35, 36] (by decide +kernel) (by decide +kernel)
set_option maxRecDepth 20000 in
theorem gX6_readsGroup_X6_sign : GoodIn wsX6_readsGroup (wsV RX6 117 RX6 yX6_sign wsX6_sign) := goodIn_app (goodIn_of _ (by decide +kernel)) ggX6_readsGroup_X6_sign
theorem dX6_readsGroup_0 : decode cX6_readsGroup 0 = .ok (.aload_n 0, 1) := by decide +kernel
theorem dX6_readsGroup_1 : decode cX6_readsGroup 1 = .ok (.iconst 1, 1) := by decide +kernel
theorem dX6_readsGroup_2 : decode cX6_readsGroup 2 = .ok (.putfield 113, 3) := by decide +kernel
theorem dX6_readsGroup_5 : decode cX6_readsGroup 5 = .ok (.aload_n 0, 1) := by decide +kernel
theorem dX6_readsGroup_6 : decode cX6_readsGroup 6 = .ok (.getfield 40, 3) := by decide +kernel
theorem dX6_readsGroup_9 : decode cX6_readsGroup 9 = .ok (.iconst 2, 1) := by decide +kernel
theorem dX6_readsGroup_10 : decode cX6_readsGroup 10 = .ok (.aload_n 0, 1) := by decide +kernel
theorem dX6_readsGroup_11 : decode cX6_readsGroup 11 = .ok (.getfield 120, 3) := by decide +kernel
theorem dX6_readsGroup_14 : decode cX6_readsGroup 14 = .ok (.imul, 1) := by decide +kernel
theorem dX6_readsGroup_15 : decode cX6_readsGroup 15 = .ok (.aload_n 0, 1) := by decide +kernel
theorem dX6_readsGroup_16 : decode cX6_readsGroup 16 = .ok (.invokevirtual 123, 3) := by decide +kernel
theorem dX6_readsGroup_19 : decode cX6_readsGroup 19 = .ok (.iastore, 1) := by decide +kernel
theorem dX6_readsGroup_20 : decode cX6_readsGroup 20 = .ok (.aload_n 0, 1) := by decide +kernel
theorem dX6_readsGroup_21 : decode cX6_readsGroup 21 = .ok (.aload_n 0, 1) := by decide +kernel
theorem dX6_readsGroup_22 : decode cX6_readsGroup 22 = .ok (.getfield 113, 3) := by decide +kernel
theorem dX6_readsGroup_25 : decode cX6_readsGroup 25 = .ok (.ifCond .eq 16, 3) := by decide +kernel
theorem dX6_readsGroup_28 : decode cX6_readsGroup 28 = .ok (.aload_n 0, 1) := by decide +kernel
theorem dX6_readsGroup_29 : decode cX6_readsGroup 29 = .ok (.invokevirtual 117, 3) := by decide +kernel
theorem dX6_readsGroup_32 : decode cX6_readsGroup 32 = .ok (.bipush 45, 2) := by decide +kernel
theorem dX6_readsGroup_34 : decode cX6_readsGroup 34 = .ok (.if_icmp .ne 7, 3) := by decide +kernel
theorem dX6_readsGroup_37 : decode cX6_readsGroup 37 = .ok (.iconst 1, 1) := by decide +kernel
theorem dX6_readsGroup_38 : decode cX6_readsGroup 38 = .ok (.goto 4, 3) := by decide +kernel
theorem dX6_readsGroup_41 : decode cX6_readsGroup 41 = .ok (.iconst 0, 1) := by decide +kernel
theorem dX6_readsGroup_42 : decode cX6_readsGroup 42 = .ok (.putfield 113, 3) := by decide +kernel
theorem dX6_readsGroup_45 : decode cX6_readsGroup 45 = .ok (.aload_n 0, 1) := by decide +kernel
theorem dX6_readsGroup_46 : decode cX6_readsGroup 46 = .ok (.dup, 1) := by decide +kernel
theorem dX6_readsGroup_47 : decode cX6_readsGroup 47 = .ok (.getfield 110, 3) := by decide +kernel
theorem dX6_readsGroup_50 : decode cX6_readsGroup 50 = .ok (.aload_n 0, 1) := by decide +kernel
theorem dX6_readsGroup_51 : decode cX6_readsGroup 51 = .ok (.getfield 113, 3) := by decide +kernel
theorem dX6_readsGroup_54 : decode cX6_readsGroup 54 = .ok (.ifCond .eq 7, 3) := by decide +kernel
theorem dX6_readsGroup_57 : decode cX6_readsGroup 57 = .ok (.iconst 1, 1) := by decide +kernel
theorem dX6_readsGroup_58 : decode cX6_readsGroup 58 = .ok (.goto 4, 3) := by decide +kernel
theorem dX6_readsGroup_61 : decode cX6_readsGroup 61 = .ok (.iconst 0, 1) := by decide +kernel
theorem dX6_readsGroup_62 : decode cX6_readsGroup 62 = .ok (.iadd, 1) := by decide +kernel
theorem dX6_readsGroup_63 : decode cX6_readsGroup 63 = .ok (.putfield 110, 3) := by decide +kernel
theorem dX6_readsGroup_66 : decode cX6_readsGroup 66 = .ok (.aload_n 0, 1) := by decide +kernel
theorem dX6_readsGroup_67 : decode cX6_readsGroup 67 = .ok (.getfield 40, 3) := by decide +kernel
theorem dX6_readsGroup_70 : decode cX6_readsGroup 70 = .ok (.iconst 2, 1) := by decide +kernel
theorem dX6_readsGroup_71 : decode cX6_readsGroup 71 = .ok (.aload_n 0, 1) := by decide +kernel
theorem dX6_readsGroup_72 : decode cX6_readsGroup 72 = .ok (.getfield 120, 3) := by decide +kernel
theorem dX6_readsGroup_75 : decode cX6_readsGroup 75 = .ok (.imul, 1) := by decide +kernel
theorem dX6_readsGroup_76 : decode cX6_readsGroup 76 = .ok (.iconst 1, 1) := by decide +kernel
theorem dX6_readsGroup_77 : decode cX6_readsGroup 77 = .ok (.iadd, 1) := by decide +kernel
theorem dX6_readsGroup_78 : decode cX6_readsGroup 78 = .ok (.aload_n 0, 1) := by decide +kernel
theorem dX6_readsGroup_79 : decode cX6_readsGroup 79 = .ok (.invokevirtual 123, 3) := by decide +kernel
theorem dX6_readsGroup_82 : decode cX6_readsGroup 82 = .ok (.iastore, 1) := by decide +kernel
theorem dX6_readsGroup_83 : decode cX6_readsGroup 83 = .ok (.aload_n 0, 1) := by decide +kernel
theorem dX6_readsGroup_84 : decode cX6_readsGroup 84 = .ok (.dup, 1) := by decide +kernel
theorem dX6_readsGroup_85 : decode cX6_readsGroup 85 = .ok (.getfield 120, 3) := by decide +kernel
theorem dX6_readsGroup_88 : decode cX6_readsGroup 88 = .ok (.aload_n 0, 1) := by decide +kernel
theorem dX6_readsGroup_89 : decode cX6_readsGroup 89 = .ok (.getfield 113, 3) := by decide +kernel
theorem dX6_readsGroup_92 : decode cX6_readsGroup 92 = .ok (.ifCond .eq 7, 3) := by decide +kernel
theorem dX6_readsGroup_95 : decode cX6_readsGroup 95 = .ok (.iconst 1, 1) := by decide +kernel
theorem dX6_readsGroup_96 : decode cX6_readsGroup 96 = .ok (.goto 4, 3) := by decide +kernel
theorem dX6_readsGroup_99 : decode cX6_readsGroup 99 = .ok (.iconst 0, 1) := by decide +kernel
theorem dX6_readsGroup_100 : decode cX6_readsGroup 100 = .ok (.iadd, 1) := by decide +kernel
theorem dX6_readsGroup_101 : decode cX6_readsGroup 101 = .ok (.putfield 120, 3) := by decide +kernel
theorem dX6_readsGroup_104 : decode cX6_readsGroup 104 = .ok (.return_, 1) := by decide +kernel
set_option maxRecDepth 20000 in
theorem ggX6_reads_X6_readsGroup : GoodIn wsX6_reads wsX6_readsGroup := goodIn_r _ [9, 3, 10, 2, 1, 11, 12, 13, 8, 14, 15, 16, 17, 18, 4, 19, 20, 21, 22, 23, 24, 25, 26, 27, 28, 29, 30, 31, 32, 33, 34, 35, 36, 37, 38, 39, 40] (by decide +kernel) (by decide +kernel)
set_option maxRecDepth 20000 in
theorem gX6_reads_X6_readsGroup : GoodIn wsX6_reads (wsV RX6 126 RX6 yX6_readsGroup wsX6_readsGroup) := goodIn_app (goodIn_of _ (by decide +kernel)) ggX6_reads_X6_readsGroup
set_option maxRecDepth 20000 in
theorem ggX6_reads_X6_sign : GoodIn wsX6_reads wsX6_sign := goodIn_r _ [18, 1, 4, 19, 23, 24, 25, 26, 27, 28, 29, 30, 31, 32, 33, 34, 35, 36, 37, 38, 39, 40] (by decide +kernel) (by decide +kernel)
set_option maxRecDepth 20000 in
theorem gX6_reads_X6_sign : GoodIn wsX6_reads (wsV RX6 117 RX6 yX6_sign wsX6_sign) := goodIn_app (goodIn_of _ (by decide +kernel)) ggX6_reads_X6_sign
theorem dX6_reads_0 : decode cX6_reads 0 = .ok (.aload_n 0, 1) := by decide +kernel
theorem dX6_reads_1 : decode cX6_reads 1 = .ok (.iconst 0, 1) := by decide +kernel
theorem dX6_reads_2 : decode cX6_reads 2 = .ok (.putfield 110, 3) := by decide +kernel
theorem dX6_reads_5 : decode cX6_reads 5 = .ok (.aload_n 0, 1) := by decide +kernel
theorem dX6_reads_6 : decode cX6_reads 6 = .ok (.iconst 0, 1) := by decide +kernel
theorem dX6_reads_7 : decode cX6_reads 7 = .ok (.putfield 120, 3) := by decide +kernel
theorem dX6_reads_10 : decode cX6_reads 10 = .ok (.aload_n 0, 1) := by decide +kernel
theorem dX6_reads_11 : decode cX6_reads 11 = .ok (.invokevirtual 126, 3) := by decide +kernel
theorem dX6_reads_14 : decode cX6_reads 14 = .ok (.aload_n 0, 1) := by decide +kernel
theorem dX6_reads_15 : decode cX6_reads 15 = .ok (.getfield 113, 3) := by decide +kernel
theorem dX6_reads_18 : decode cX6_reads 18 = .ok (.ifCond .eq 67, 3) := by decide +kernel
theorem dX6_reads_21 : decode cX6_reads 21 = .ok (.aload_n 0, 1) := by decide +kernel
theorem dX6_reads_22 : decode cX6_reads 22 = .ok (.getfield 110, 3) := by decide +kernel
theorem dX6_reads_25 : decode cX6_reads 25 = .ok (.aload_n 0, 1) := by decide +kernel
theorem dX6_reads_26 : decode cX6_reads 26 = .ok (.getfield 107, 3) := by decide +kernel
theorem dX6_reads_29 : decode cX6_reads 29 = .ok (.if_icmp .ge 56, 3) := by decide +kernel
theorem dX6_reads_32 : decode cX6_reads 32 = .ok (.aload_n 0, 1) := by decide +kernel
theorem dX6_reads_33 : decode cX6_reads 33 = .ok (.aload_n 0, 1) := by decide +kernel
theorem dX6_reads_34 : decode cX6_reads 34 = .ok (.invokevirtual 117, 3) := by decide +kernel
theorem dX6_reads_37 : decode cX6_reads 37 = .ok (.bipush 44, 2) := by decide +kernel
theorem dX6_reads_39 : decode cX6_reads 39 = .ok (.if_icmp .ne 7, 3) := by decide +kernel
theorem dX6_reads_42 : decode cX6_reads 42 = .ok (.iconst 1, 1) := by decide +kernel
theorem dX6_reads_43 : decode cX6_reads 43 = .ok (.goto 4, 3) := by decide +kernel
theorem dX6_reads_46 : decode cX6_reads 46 = .ok (.iconst 0, 1) := by decide +kernel
theorem dX6_reads_47 : decode cX6_reads 47 = .ok (.putfield 113, 3) := by decide +kernel
theorem dX6_reads_50 : decode cX6_reads 50 = .ok (.aload_n 0, 1) := by decide +kernel
theorem dX6_reads_51 : decode cX6_reads 51 = .ok (.dup, 1) := by decide +kernel
theorem dX6_reads_52 : decode cX6_reads 52 = .ok (.getfield 110, 3) := by decide +kernel
theorem dX6_reads_55 : decode cX6_reads 55 = .ok (.aload_n 0, 1) := by decide +kernel
theorem dX6_reads_56 : decode cX6_reads 56 = .ok (.getfield 113, 3) := by decide +kernel
theorem dX6_reads_59 : decode cX6_reads 59 = .ok (.ifCond .eq 7, 3) := by decide +kernel
theorem dX6_reads_62 : decode cX6_reads 62 = .ok (.iconst 1, 1) := by decide +kernel
theorem dX6_reads_63 : decode cX6_reads 63 = .ok (.goto 4, 3) := by decide +kernel
theorem dX6_reads_66 : decode cX6_reads 66 = .ok (.iconst 0, 1) := by decide +kernel
theorem dX6_reads_67 : decode cX6_reads 67 = .ok (.iadd, 1) := by decide +kernel
theorem dX6_reads_68 : decode cX6_reads 68 = .ok (.putfield 110, 3) := by decide +kernel
theorem dX6_reads_71 : decode cX6_reads 71 = .ok (.aload_n 0, 1) := by decide +kernel
theorem dX6_reads_72 : decode cX6_reads 72 = .ok (.getfield 113, 3) := by decide +kernel
theorem dX6_reads_75 : decode cX6_reads 75 = .ok (.ifCond .eq (-61), 3) := by decide +kernel
theorem dX6_reads_78 : decode cX6_reads 78 = .ok (.aload_n 0, 1) := by decide +kernel
theorem dX6_reads_79 : decode cX6_reads 79 = .ok (.invokevirtual 126, 3) := by decide +kernel
theorem dX6_reads_82 : decode cX6_reads 82 = .ok (.goto (-68), 3) := by decide +kernel
theorem dX6_reads_85 : decode cX6_reads 85 = .ok (.aload_n 0, 1) := by decide +kernel
theorem dX6_reads_86 : decode cX6_reads 86 = .ok (.getfield 113, 3) := by decide +kernel
theorem dX6_reads_89 : decode cX6_reads 89 = .ok (.ifCond .eq 8, 3) := by decide +kernel
theorem dX6_reads_92 : decode cX6_reads 92 = .ok (.bipush (-5), 2) := by decide +kernel
theorem dX6_reads_94 : decode cX6_reads 94 = .ok (.goto 7, 3) := by decide +kernel
theorem dX6_reads_97 : decode cX6_reads 97 = .ok (.aload_n 0, 1) := by decide +kernel
theorem dX6_reads_98 : decode cX6_reads 98 = .ok (.getfield 110, 3) := by decide +kernel
theorem dX6_reads_101 : decode cX6_reads 101 = .ok (.ireturn, 1) := by decide +kernel
set_option maxRecDepth 20000 in
theorem ggX6_fault_X6_reads : GoodIn wsX6_fault wsX6_reads := goodIn_r _ [6, 7, 8, 9, 10, 11, 12, 13, 5, 14, 15, 16, 17, 18, 19, 20, 21, 22, 23, 24, 25, 26, 27, 28, 29, 30, 31, 32, 33, 34, 35, 36, 37, 38, 39, 40, 41, 42, 43, 44, 45] (by decide +kernel) (by decide +kernel)
set_option maxRecDepth 20000 in
theorem gX6_fault_X6_reads : GoodIn wsX6_fault (wsV RX6 129 RX6 yX6_reads wsX6_reads) := goodIn_app (goodIn_of _ (by decide +kernel)) ggX6_fault_X6_reads
theorem dX6_fault_0 : decode cX6_fault 0 = .ok (.aload_n 0, 1) := by decide +kernel
theorem dX6_fault_1 : decode cX6_fault 1 = .ok (.iconst 0, 1) := by decide +kernel
theorem dX6_fault_2 : decode cX6_fault 2 = .ok (.putfield 43, 3) := by decide +kernel
theorem dX6_fault_5 : decode cX6_fault 5 = .ok (.aload_n 0, 1) := by decide +kernel
theorem dX6_fault_6 : decode cX6_fault 6 = .ok (.invokevirtual 129, 3) := by decide +kernel
theorem dX6_fault_9 : decode cX6_fault 9 = .ok (.ireturn, 1) := by decide +kernel
theorem dX6_adds_0 : decode cX6_adds 0 = .ok (.iconst 0, 1) := by decide +kernel
theorem dX6_adds_1 : decode cX6_adds 1 = .ok (.istore_n 3, 1) := by decide +kernel
theorem dX6_adds_2 : decode cX6_adds 2 = .ok (.iconst 0, 1) := by decide +kernel
theorem dX6_adds_3 : decode cX6_adds 3 = .ok (.istore 4, 2) := by decide +kernel
theorem dX6_adds_5 : decode cX6_adds 5 = .ok (.iload 4, 2) := by decide +kernel
theorem dX6_adds_7 : decode cX6_adds 7 = .ok (.bipush 64, 2) := by decide +kernel
theorem dX6_adds_9 : decode cX6_adds 9 = .ok (.if_icmp .ge 97, 3) := by decide +kernel
theorem dX6_adds_12 : decode cX6_adds 12 = .ok (.iload_n 1, 1) := by decide +kernel
theorem dX6_adds_13 : decode cX6_adds 13 = .ok (.iload 4, 2) := by decide +kernel
theorem dX6_adds_15 : decode cX6_adds 15 = .ok (.bipush 8, 2) := by decide +kernel
theorem dX6_adds_17 : decode cX6_adds 17 = .ok (.idiv, 1) := by decide +kernel
theorem dX6_adds_18 : decode cX6_adds 18 = .ok (.ishr, 1) := by decide +kernel
theorem dX6_adds_19 : decode cX6_adds 19 = .ok (.iconst 1, 1) := by decide +kernel
theorem dX6_adds_20 : decode cX6_adds 20 = .ok (.iand, 1) := by decide +kernel
theorem dX6_adds_21 : decode cX6_adds 21 = .ok (.iconst 1, 1) := by decide +kernel
theorem dX6_adds_22 : decode cX6_adds 22 = .ok (.if_icmp .ne 20, 3) := by decide +kernel
theorem dX6_adds_25 : decode cX6_adds 25 = .ok (.iload_n 2, 1) := by decide +kernel
theorem dX6_adds_26 : decode cX6_adds 26 = .ok (.iload 4, 2) := by decide +kernel
theorem dX6_adds_28 : decode cX6_adds 28 = .ok (.bipush 8, 2) := by decide +kernel
theorem dX6_adds_30 : decode cX6_adds 30 = .ok (.irem, 1) := by decide +kernel
theorem dX6_adds_31 : decode cX6_adds 31 = .ok (.ishr, 1) := by decide +kernel
theorem dX6_adds_32 : decode cX6_adds 32 = .ok (.iconst 1, 1) := by decide +kernel
theorem dX6_adds_33 : decode cX6_adds 33 = .ok (.iand, 1) := by decide +kernel
theorem dX6_adds_34 : decode cX6_adds 34 = .ok (.iconst 1, 1) := by decide +kernel
theorem dX6_adds_35 : decode cX6_adds 35 = .ok (.if_icmp .ne 7, 3) := by decide +kernel
theorem dX6_adds_38 : decode cX6_adds 38 = .ok (.iconst 1, 1) := by decide +kernel
theorem dX6_adds_39 : decode cX6_adds 39 = .ok (.goto 4, 3) := by decide +kernel
theorem dX6_adds_42 : decode cX6_adds 42 = .ok (.iconst 0, 1) := by decide +kernel
theorem dX6_adds_43 : decode cX6_adds 43 = .ok (.istore 5, 2) := by decide +kernel
theorem dX6_adds_45 : decode cX6_adds 45 = .ok (.iload_n 3, 1) := by decide +kernel
theorem dX6_adds_46 : decode cX6_adds 46 = .ok (.iload 5, 2) := by decide +kernel
theorem dX6_adds_48 : decode cX6_adds 48 = .ok (.ifCond .eq 20, 3) := by decide +kernel
theorem dX6_adds_51 : decode cX6_adds 51 = .ok (.aload_n 0, 1) := by decide +kernel
theorem dX6_adds_52 : decode cX6_adds 52 = .ok (.getfield 7, 3) := by decide +kernel
theorem dX6_adds_55 : decode cX6_adds 55 = .ok (.bipush 97, 2) := by decide +kernel
theorem dX6_adds_57 : decode cX6_adds 57 = .ok (.iload 4, 2) := by decide +kernel
theorem dX6_adds_59 : decode cX6_adds 59 = .ok (.iadd, 1) := by decide +kernel
theorem dX6_adds_60 : decode cX6_adds 60 = .ok (.iaload, 1) := by decide +kernel
theorem dX6_adds_61 : decode cX6_adds 61 = .ok (.ifCond .ne 7, 3) := by decide +kernel
theorem dX6_adds_64 : decode cX6_adds 64 = .ok (.iconst 1, 1) := by decide +kernel
theorem dX6_adds_65 : decode cX6_adds 65 = .ok (.goto 4, 3) := by decide +kernel
theorem dX6_adds_68 : decode cX6_adds 68 = .ok (.iconst 0, 1) := by decide +kernel
theorem dX6_adds_69 : decode cX6_adds 69 = .ok (.iadd, 1) := by decide +kernel
theorem dX6_adds_70 : decode cX6_adds 70 = .ok (.istore_n 3, 1) := by decide +kernel
theorem dX6_adds_71 : decode cX6_adds 71 = .ok (.aload_n 0, 1) := by decide +kernel
theorem dX6_adds_72 : decode cX6_adds 72 = .ok (.getfield 7, 3) := by decide +kernel
theorem dX6_adds_75 : decode cX6_adds 75 = .ok (.bipush 97, 2) := by decide +kernel
theorem dX6_adds_77 : decode cX6_adds 77 = .ok (.iload 4, 2) := by decide +kernel
theorem dX6_adds_79 : decode cX6_adds 79 = .ok (.iadd, 1) := by decide +kernel
theorem dX6_adds_80 : decode cX6_adds 80 = .ok (.iload 5, 2) := by decide +kernel
theorem dX6_adds_82 : decode cX6_adds 82 = .ok (.ifCond .eq 7, 3) := by decide +kernel
theorem dX6_adds_85 : decode cX6_adds 85 = .ok (.iconst 1, 1) := by decide +kernel
theorem dX6_adds_86 : decode cX6_adds 86 = .ok (.goto 13, 3) := by decide +kernel
theorem dX6_adds_89 : decode cX6_adds 89 = .ok (.aload_n 0, 1) := by decide +kernel
theorem dX6_adds_90 : decode cX6_adds 90 = .ok (.getfield 7, 3) := by decide +kernel
theorem dX6_adds_93 : decode cX6_adds 93 = .ok (.bipush 97, 2) := by decide +kernel
theorem dX6_adds_95 : decode cX6_adds 95 = .ok (.iload 4, 2) := by decide +kernel
theorem dX6_adds_97 : decode cX6_adds 97 = .ok (.iadd, 1) := by decide +kernel
theorem dX6_adds_98 : decode cX6_adds 98 = .ok (.iaload, 1) := by decide +kernel
theorem dX6_adds_99 : decode cX6_adds 99 = .ok (.iastore, 1) := by decide +kernel
theorem dX6_adds_100 : decode cX6_adds 100 = .ok (.iinc 4 1, 3) := by decide +kernel
theorem dX6_adds_103 : decode cX6_adds 103 = .ok (.goto (-98), 3) := by decide +kernel
theorem dX6_adds_106 : decode cX6_adds 106 = .ok (.iload_n 3, 1) := by decide +kernel
theorem dX6_adds_107 : decode cX6_adds 107 = .ok (.ireturn, 1) := by decide +kernel
set_option maxRecDepth 20000 in
theorem ggX6_read_X6_reads : GoodIn wsX6_read wsX6_reads := goodIn_r _ [8, 9, 2, 10, 11, 12, 13, 14, 7, 15, 3, 16, 17, 18, 19, 20, 21, 22, 23, 24, 25, 26, 27, 39, 40, 41, 42, 43, 44, 45, 46, 47, 48, 49, 50, 51, 52, 53, 54, 55, 56] (by decide +kernel) (by decide +kernel)
set_option maxRecDepth 20000 in
theorem gX6_read_X6_reads : GoodIn wsX6_read (wsV RX6 129 RX6 yX6_reads wsX6_reads) := goodIn_app (goodIn_of _ (by decide +kernel)) ggX6_read_X6_reads
set_option maxRecDepth 20000 in
theorem ggX6_read_X6_records : GoodIn wsX6_read wsX6_records := goodIn_r _ [31, 32, 33, 34, 39, 40, 41, 42, 43, 44, 45, 46, 47, 48, 49, 50, 51, 52, 53, 54, 55, 56] (by decide +kernel) (by decide +kernel)
set_option maxRecDepth 20000 in
theorem gX6_read_X6_records : GoodIn wsX6_read (wsV RX6 92 RX6 yX6_records wsX6_records) := goodIn_app (goodIn_of _ (by decide +kernel)) ggX6_read_X6_records
set_option maxRecDepth 20000 in
theorem ggX6_read_X6_adds : GoodIn wsX6_read wsX6_adds := goodIn_r _ [38, 34, 39, 40, 41, 42, 43, 44, 45, 46, 47, 48, 49, 50, 51, 52, 53, 54, 55, 56] (by decide +kernel) (by decide +kernel)
set_option maxRecDepth 20000 in
theorem gX6_read_X6_adds : GoodIn wsX6_read (wsV RX6 132 RX6 yX6_adds wsX6_adds) := goodIn_app (goodIn_of _ (by decide +kernel)) ggX6_read_X6_adds
theorem dX6_read_0 : decode cX6_read 0 = .ok (.aload_n 0, 1) := by decide +kernel
theorem dX6_read_1 : decode cX6_read 1 = .ok (.iconst 0, 1) := by decide +kernel
theorem dX6_read_2 : decode cX6_read 2 = .ok (.putfield 43, 3) := by decide +kernel
theorem dX6_read_5 : decode cX6_read 5 = .ok (.aload_n 0, 1) := by decide +kernel
theorem dX6_read_6 : decode cX6_read 6 = .ok (.invokevirtual 129, 3) := by decide +kernel
theorem dX6_read_9 : decode cX6_read 9 = .ok (.istore_n 1, 1) := by decide +kernel
theorem dX6_read_10 : decode cX6_read 10 = .ok (.iload_n 1, 1) := by decide +kernel
theorem dX6_read_11 : decode cX6_read 11 = .ok (.bipush (-5), 2) := by decide +kernel
theorem dX6_read_13 : decode cX6_read 13 = .ok (.if_icmp .eq 8, 3) := by decide +kernel
theorem dX6_read_16 : decode cX6_read 16 = .ok (.bipush (-100), 2) := by decide +kernel
theorem dX6_read_18 : decode cX6_read 18 = .ok (.iload_n 1, 1) := by decide +kernel
theorem dX6_read_19 : decode cX6_read 19 = .ok (.isub, 1) := by decide +kernel
theorem dX6_read_20 : decode cX6_read 20 = .ok (.ireturn, 1) := by decide +kernel
theorem dX6_read_21 : decode cX6_read 21 = .ok (.aload_n 0, 1) := by decide +kernel
theorem dX6_read_22 : decode cX6_read 22 = .ok (.invokevirtual 92, 3) := by decide +kernel
theorem dX6_read_25 : decode cX6_read 25 = .ok (.iconst 0, 1) := by decide +kernel
theorem dX6_read_26 : decode cX6_read 26 = .ok (.istore_n 2, 1) := by decide +kernel
theorem dX6_read_27 : decode cX6_read 27 = .ok (.iconst 0, 1) := by decide +kernel
theorem dX6_read_28 : decode cX6_read 28 = .ok (.istore_n 3, 1) := by decide +kernel
theorem dX6_read_29 : decode cX6_read 29 = .ok (.iload_n 3, 1) := by decide +kernel
theorem dX6_read_30 : decode cX6_read 30 = .ok (.aload_n 0, 1) := by decide +kernel
theorem dX6_read_31 : decode cX6_read 31 = .ok (.getfield 120, 3) := by decide +kernel
theorem dX6_read_34 : decode cX6_read 34 = .ok (.if_icmp .ge 34, 3) := by decide +kernel
theorem dX6_read_37 : decode cX6_read 37 = .ok (.iload_n 2, 1) := by decide +kernel
theorem dX6_read_38 : decode cX6_read 38 = .ok (.aload_n 0, 1) := by decide +kernel
theorem dX6_read_39 : decode cX6_read 39 = .ok (.aload_n 0, 1) := by decide +kernel
theorem dX6_read_40 : decode cX6_read 40 = .ok (.getfield 40, 3) := by decide +kernel
theorem dX6_read_43 : decode cX6_read 43 = .ok (.iconst 2, 1) := by decide +kernel
theorem dX6_read_44 : decode cX6_read 44 = .ok (.iload_n 3, 1) := by decide +kernel
theorem dX6_read_45 : decode cX6_read 45 = .ok (.imul, 1) := by decide +kernel
theorem dX6_read_46 : decode cX6_read 46 = .ok (.iaload, 1) := by decide +kernel
theorem dX6_read_47 : decode cX6_read 47 = .ok (.aload_n 0, 1) := by decide +kernel
theorem dX6_read_48 : decode cX6_read 48 = .ok (.getfield 40, 3) := by decide +kernel
theorem dX6_read_51 : decode cX6_read 51 = .ok (.iconst 2, 1) := by decide +kernel
theorem dX6_read_52 : decode cX6_read 52 = .ok (.iload_n 3, 1) := by decide +kernel
theorem dX6_read_53 : decode cX6_read 53 = .ok (.imul, 1) := by decide +kernel
theorem dX6_read_54 : decode cX6_read 54 = .ok (.iconst 1, 1) := by decide +kernel
theorem dX6_read_55 : decode cX6_read 55 = .ok (.iadd, 1) := by decide +kernel
theorem dX6_read_56 : decode cX6_read 56 = .ok (.iaload, 1) := by decide +kernel
theorem dX6_read_57 : decode cX6_read 57 = .ok (.invokevirtual 132, 3) := by decide +kernel
theorem dX6_read_60 : decode cX6_read 60 = .ok (.iadd, 1) := by decide +kernel
theorem dX6_read_61 : decode cX6_read 61 = .ok (.istore_n 2, 1) := by decide +kernel
theorem dX6_read_62 : decode cX6_read 62 = .ok (.iinc 3 1, 3) := by decide +kernel
theorem dX6_read_65 : decode cX6_read 65 = .ok (.goto (-36), 3) := by decide +kernel
theorem dX6_read_68 : decode cX6_read 68 = .ok (.iload_n 2, 1) := by decide +kernel
theorem dX6_read_69 : decode cX6_read 69 = .ok (.ireturn, 1) := by decide +kernel
theorem dX6_undo_0 : decode cX6_undo 0 = .ok (.aload_n 0, 1) := by decide +kernel
theorem dX6_undo_1 : decode cX6_undo 1 = .ok (.iconst 0, 1) := by decide +kernel
theorem dX6_undo_2 : decode cX6_undo 2 = .ok (.putfield 43, 3) := by decide +kernel
theorem dX6_undo_5 : decode cX6_undo 5 = .ok (.aload_n 0, 1) := by decide +kernel
theorem dX6_undo_6 : decode cX6_undo 6 = .ok (.getfield 55, 3) := by decide +kernel
theorem dX6_undo_9 : decode cX6_undo 9 = .ok (.ifCond .ne 6, 3) := by decide +kernel
theorem dX6_undo_12 : decode cX6_undo 12 = .ok (.bipush (-5), 2) := by decide +kernel
theorem dX6_undo_14 : decode cX6_undo 14 = .ok (.ireturn, 1) := by decide +kernel
theorem dX6_undo_15 : decode cX6_undo 15 = .ok (.aload_n 0, 1) := by decide +kernel
theorem dX6_undo_16 : decode cX6_undo 16 = .ok (.dup, 1) := by decide +kernel
theorem dX6_undo_17 : decode cX6_undo 17 = .ok (.getfield 55, 3) := by decide +kernel
theorem dX6_undo_20 : decode cX6_undo 20 = .ok (.iconst 1, 1) := by decide +kernel
theorem dX6_undo_21 : decode cX6_undo 21 = .ok (.isub, 1) := by decide +kernel
theorem dX6_undo_22 : decode cX6_undo 22 = .ok (.putfield 55, 3) := by decide +kernel
theorem dX6_undo_25 : decode cX6_undo 25 = .ok (.iconst 0, 1) := by decide +kernel
theorem dX6_undo_26 : decode cX6_undo 26 = .ok (.istore_n 1, 1) := by decide +kernel
theorem dX6_undo_27 : decode cX6_undo 27 = .ok (.iload_n 1, 1) := by decide +kernel
theorem dX6_undo_28 : decode cX6_undo 28 = .ok (.sipush 225, 3) := by decide +kernel
theorem dX6_undo_31 : decode cX6_undo 31 = .ok (.if_icmp .ge 30, 3) := by decide +kernel
theorem dX6_undo_34 : decode cX6_undo 34 = .ok (.aload_n 0, 1) := by decide +kernel
theorem dX6_undo_35 : decode cX6_undo 35 = .ok (.getfield 7, 3) := by decide +kernel
theorem dX6_undo_38 : decode cX6_undo 38 = .ok (.iload_n 1, 1) := by decide +kernel
theorem dX6_undo_39 : decode cX6_undo 39 = .ok (.aload_n 0, 1) := by decide +kernel
theorem dX6_undo_40 : decode cX6_undo 40 = .ok (.getfield 16, 3) := by decide +kernel
theorem dX6_undo_43 : decode cX6_undo 43 = .ok (.sipush 225, 3) := by decide +kernel
theorem dX6_undo_46 : decode cX6_undo 46 = .ok (.aload_n 0, 1) := by decide +kernel
theorem dX6_undo_47 : decode cX6_undo 47 = .ok (.getfield 55, 3) := by decide +kernel
theorem dX6_undo_50 : decode cX6_undo 50 = .ok (.imul, 1) := by decide +kernel
theorem dX6_undo_51 : decode cX6_undo 51 = .ok (.iload_n 1, 1) := by decide +kernel
theorem dX6_undo_52 : decode cX6_undo 52 = .ok (.iadd, 1) := by decide +kernel
theorem dX6_undo_53 : decode cX6_undo 53 = .ok (.iaload, 1) := by decide +kernel
theorem dX6_undo_54 : decode cX6_undo 54 = .ok (.iastore, 1) := by decide +kernel
theorem dX6_undo_55 : decode cX6_undo 55 = .ok (.iinc 1 1, 3) := by decide +kernel
theorem dX6_undo_58 : decode cX6_undo 58 = .ok (.goto (-31), 3) := by decide +kernel
theorem dX6_undo_61 : decode cX6_undo 61 = .ok (.aload_n 0, 1) := by decide +kernel
theorem dX6_undo_62 : decode cX6_undo 62 = .ok (.getfield 55, 3) := by decide +kernel
theorem dX6_undo_65 : decode cX6_undo 65 = .ok (.ireturn, 1) := by decide +kernel
set_option maxRecDepth 20000 in
theorem ggX6_save_X6_openMany : GoodIn wsX6_save wsX6_openMany := goodIn_r _ [9, 3, 10, 11, 12, 13, 14, 15, 16, 17, 18, 19, 20, 21, 22, 23, 24, 25, 26, 27] (by decide +kernel) (by decide +kernel)
set_option maxRecDepth 20000 in
theorem gX6_save_X6_openMany : GoodIn wsX6_save (wsV RX6 95 RX6 yX6_openMany wsX6_openMany) := goodIn_app (goodIn_of _ (by decide +kernel)) ggX6_save_X6_openMany
theorem dX6_save_0 : decode cX6_save 0 = .ok (.aload_n 0, 1) := by decide +kernel
theorem dX6_save_1 : decode cX6_save 1 = .ok (.iconst 0, 1) := by decide +kernel
theorem dX6_save_2 : decode cX6_save 2 = .ok (.putfield 43, 3) := by decide +kernel
theorem dX6_save_5 : decode cX6_save 5 = .ok (.iconst 0, 1) := by decide +kernel
theorem dX6_save_6 : decode cX6_save 6 = .ok (.istore_n 1, 1) := by decide +kernel
theorem dX6_save_7 : decode cX6_save 7 = .ok (.iload_n 1, 1) := by decide +kernel
theorem dX6_save_8 : decode cX6_save 8 = .ok (.sipush 225, 3) := by decide +kernel
theorem dX6_save_11 : decode cX6_save 11 = .ok (.if_icmp .ge 21, 3) := by decide +kernel
theorem dX6_save_14 : decode cX6_save 14 = .ok (.aload_n 0, 1) := by decide +kernel
theorem dX6_save_15 : decode cX6_save 15 = .ok (.getfield 19, 3) := by decide +kernel
theorem dX6_save_18 : decode cX6_save 18 = .ok (.iload_n 1, 1) := by decide +kernel
theorem dX6_save_19 : decode cX6_save 19 = .ok (.aload_n 0, 1) := by decide +kernel
theorem dX6_save_20 : decode cX6_save 20 = .ok (.getfield 7, 3) := by decide +kernel
theorem dX6_save_23 : decode cX6_save 23 = .ok (.iload_n 1, 1) := by decide +kernel
theorem dX6_save_24 : decode cX6_save 24 = .ok (.iaload, 1) := by decide +kernel
theorem dX6_save_25 : decode cX6_save 25 = .ok (.iastore, 1) := by decide +kernel
theorem dX6_save_26 : decode cX6_save 26 = .ok (.iinc 1 1, 3) := by decide +kernel
theorem dX6_save_29 : decode cX6_save 29 = .ok (.goto (-22), 3) := by decide +kernel
theorem dX6_save_32 : decode cX6_save 32 = .ok (.aload_n 0, 1) := by decide +kernel
theorem dX6_save_33 : decode cX6_save 33 = .ok (.iconst 1, 1) := by decide +kernel
theorem dX6_save_34 : decode cX6_save 34 = .ok (.putfield 135, 3) := by decide +kernel
theorem dX6_save_37 : decode cX6_save 37 = .ok (.aload_n 0, 1) := by decide +kernel
theorem dX6_save_38 : decode cX6_save 38 = .ok (.invokevirtual 95, 3) := by decide +kernel
theorem dX6_save_41 : decode cX6_save 41 = .ok (.ireturn, 1) := by decide +kernel
set_option maxRecDepth 20000 in
theorem ggX6_restore_X6_records : GoodIn wsX6_restore wsX6_records := goodIn_r _ [9, 10, 11, 3, 16, 17, 18, 19, 20, 21, 22, 23, 24, 25, 26, 27, 28, 29, 30, 31, 32, 33] (by decide +kernel) (by decide +kernel)
set_option maxRecDepth 20000 in
theorem gX6_restore_X6_records : GoodIn wsX6_restore (wsV RX6 92 RX6 yX6_records wsX6_records) := goodIn_app (goodIn_of _ (by decide +kernel)) ggX6_restore_X6_records
set_option maxRecDepth 20000 in
theorem ggX6_restore_X6_openMany : GoodIn wsX6_restore wsX6_openMany := goodIn_r _ [15, 3, 16, 17, 18, 19, 20, 21, 22, 23, 24, 25, 26, 27, 28, 29, 30, 31, 32, 33] (by decide +kernel) (by decide +kernel)
set_option maxRecDepth 20000 in
theorem gX6_restore_X6_openMany : GoodIn wsX6_restore (wsV RX6 95 RX6 yX6_openMany wsX6_openMany) := goodIn_app (goodIn_of _ (by decide +kernel)) ggX6_restore_X6_openMany
theorem dX6_restore_0 : decode cX6_restore 0 = .ok (.aload_n 0, 1) := by decide +kernel
theorem dX6_restore_1 : decode cX6_restore 1 = .ok (.iconst 0, 1) := by decide +kernel
theorem dX6_restore_2 : decode cX6_restore 2 = .ok (.putfield 43, 3) := by decide +kernel
theorem dX6_restore_5 : decode cX6_restore 5 = .ok (.aload_n 0, 1) := by decide +kernel
theorem dX6_restore_6 : decode cX6_restore 6 = .ok (.getfield 135, 3) := by decide +kernel
theorem dX6_restore_9 : decode cX6_restore 9 = .ok (.ifCond .ne 6, 3) := by decide +kernel
theorem dX6_restore_12 : decode cX6_restore 12 = .ok (.bipush (-4), 2) := by decide +kernel
theorem dX6_restore_14 : decode cX6_restore 14 = .ok (.ireturn, 1) := by decide +kernel
theorem dX6_restore_15 : decode cX6_restore 15 = .ok (.aload_n 0, 1) := by decide +kernel
theorem dX6_restore_16 : decode cX6_restore 16 = .ok (.invokevirtual 92, 3) := by decide +kernel
theorem dX6_restore_19 : decode cX6_restore 19 = .ok (.iconst 0, 1) := by decide +kernel
theorem dX6_restore_20 : decode cX6_restore 20 = .ok (.istore_n 1, 1) := by decide +kernel
theorem dX6_restore_21 : decode cX6_restore 21 = .ok (.iload_n 1, 1) := by decide +kernel
theorem dX6_restore_22 : decode cX6_restore 22 = .ok (.sipush 225, 3) := by decide +kernel
theorem dX6_restore_25 : decode cX6_restore 25 = .ok (.if_icmp .ge 21, 3) := by decide +kernel
theorem dX6_restore_28 : decode cX6_restore 28 = .ok (.aload_n 0, 1) := by decide +kernel
theorem dX6_restore_29 : decode cX6_restore 29 = .ok (.getfield 7, 3) := by decide +kernel
theorem dX6_restore_32 : decode cX6_restore 32 = .ok (.iload_n 1, 1) := by decide +kernel
theorem dX6_restore_33 : decode cX6_restore 33 = .ok (.aload_n 0, 1) := by decide +kernel
theorem dX6_restore_34 : decode cX6_restore 34 = .ok (.getfield 19, 3) := by decide +kernel
theorem dX6_restore_37 : decode cX6_restore 37 = .ok (.iload_n 1, 1) := by decide +kernel
theorem dX6_restore_38 : decode cX6_restore 38 = .ok (.iaload, 1) := by decide +kernel
theorem dX6_restore_39 : decode cX6_restore 39 = .ok (.iastore, 1) := by decide +kernel
theorem dX6_restore_40 : decode cX6_restore 40 = .ok (.iinc 1 1, 3) := by decide +kernel
theorem dX6_restore_43 : decode cX6_restore 43 = .ok (.goto (-22), 3) := by decide +kernel
theorem dX6_restore_46 : decode cX6_restore 46 = .ok (.aload_n 0, 1) := by decide +kernel
theorem dX6_restore_47 : decode cX6_restore 47 = .ok (.invokevirtual 95, 3) := by decide +kernel
theorem dX6_restore_50 : decode cX6_restore 50 = .ok (.ireturn, 1) := by decide +kernel
set_option maxRecDepth 20000 in
theorem ggX6_ofTwo_X6_isPossible : GoodIn wsX6_ofTwo wsX6_isPossible := goodIn_r _ [6, 7, 8, 9, 5, 10, 1, 11, 12, 13, 14, 15, 16, 17, 18, 19, 20, 21, 22, 23, 24, 25, 26, 27, 28, 29, 30, 31, 32, 33, 34, 35, 36] (by decide +kernel) (by decide +kernel)
set_option maxRecDepth 20000 in
theorem gX6_ofTwo_X6_isPossible : GoodIn wsX6_ofTwo (wsV RX6 68 RX6 yX6_isPossible wsX6_isPossible) := goodIn_app (goodIn_of _ (by decide +kernel)) ggX6_ofTwo_X6_isPossible
set_option maxRecDepth 20000 in
theorem ggX6_ofTwo_X6_canMeet : GoodIn wsX6_ofTwo wsX6_canMeet := goodIn_r _ [14, 1, 15, 16, 17, 5, 18, 19, 20, 21, 22, 23, 24, 25, 26, 27, 28, 29, 30, 31, 32, 33, 34, 35, 36] (by decide +kernel) (by decide +kernel)
set_option maxRecDepth 20000 in
theorem gX6_ofTwo_X6_canMeet : GoodIn wsX6_ofTwo (wsV RX6 65 RX6 yX6_canMeet wsX6_canMeet) := goodIn_app (goodIn_of _ (by decide +kernel)) ggX6_ofTwo_X6_canMeet
theorem dX6_ofTwo_0 : decode cX6_ofTwo 0 = .ok (.iload_n 3, 1) := by decide +kernel
theorem dX6_ofTwo_1 : decode cX6_ofTwo 1 = .ok (.tableswitch 100 1 4 #[31, 46, 61, 84], 31) := by decide +kernel
theorem dX6_ofTwo_32 : decode cX6_ofTwo 32 = .ok (.aload_n 0, 1) := by decide +kernel
theorem dX6_ofTwo_33 : decode cX6_ofTwo 33 = .ok (.getfield 7, 3) := by decide +kernel
theorem dX6_ofTwo_36 : decode cX6_ofTwo 36 = .ok (.bipush 97, 2) := by decide +kernel
theorem dX6_ofTwo_38 : decode cX6_ofTwo 38 = .ok (.bipush 8, 2) := by decide +kernel
theorem dX6_ofTwo_40 : decode cX6_ofTwo 40 = .ok (.iload_n 1, 1) := by decide +kernel
theorem dX6_ofTwo_41 : decode cX6_ofTwo 41 = .ok (.imul, 1) := by decide +kernel
theorem dX6_ofTwo_42 : decode cX6_ofTwo 42 = .ok (.iadd, 1) := by decide +kernel
theorem dX6_ofTwo_43 : decode cX6_ofTwo 43 = .ok (.iload_n 2, 1) := by decide +kernel
theorem dX6_ofTwo_44 : decode cX6_ofTwo 44 = .ok (.iadd, 1) := by decide +kernel
theorem dX6_ofTwo_45 : decode cX6_ofTwo 45 = .ok (.iaload, 1) := by decide +kernel
theorem dX6_ofTwo_46 : decode cX6_ofTwo 46 = .ok (.ireturn, 1) := by decide +kernel
theorem dX6_ofTwo_47 : decode cX6_ofTwo 47 = .ok (.aload_n 0, 1) := by decide +kernel
theorem dX6_ofTwo_48 : decode cX6_ofTwo 48 = .ok (.iload_n 1, 1) := by decide +kernel
theorem dX6_ofTwo_49 : decode cX6_ofTwo 49 = .ok (.iload_n 2, 1) := by decide +kernel
theorem dX6_ofTwo_50 : decode cX6_ofTwo 50 = .ok (.invokevirtual 68, 3) := by decide +kernel
theorem dX6_ofTwo_53 : decode cX6_ofTwo 53 = .ok (.ifCond .eq 7, 3) := by decide +kernel
theorem dX6_ofTwo_56 : decode cX6_ofTwo 56 = .ok (.iconst 1, 1) := by decide +kernel
theorem dX6_ofTwo_57 : decode cX6_ofTwo 57 = .ok (.goto 4, 3) := by decide +kernel
theorem dX6_ofTwo_60 : decode cX6_ofTwo 60 = .ok (.iconst 0, 1) := by decide +kernel
theorem dX6_ofTwo_61 : decode cX6_ofTwo 61 = .ok (.ireturn, 1) := by decide +kernel
theorem dX6_ofTwo_62 : decode cX6_ofTwo 62 = .ok (.aload_n 0, 1) := by decide +kernel
theorem dX6_ofTwo_63 : decode cX6_ofTwo 63 = .ok (.getfield 7, 3) := by decide +kernel
theorem dX6_ofTwo_66 : decode cX6_ofTwo 66 = .ok (.bipush 33, 2) := by decide +kernel
theorem dX6_ofTwo_68 : decode cX6_ofTwo 68 = .ok (.bipush 8, 2) := by decide +kernel
theorem dX6_ofTwo_70 : decode cX6_ofTwo 70 = .ok (.iload_n 1, 1) := by decide +kernel
theorem dX6_ofTwo_71 : decode cX6_ofTwo 71 = .ok (.imul, 1) := by decide +kernel
theorem dX6_ofTwo_72 : decode cX6_ofTwo 72 = .ok (.iadd, 1) := by decide +kernel
theorem dX6_ofTwo_73 : decode cX6_ofTwo 73 = .ok (.iload_n 2, 1) := by decide +kernel
theorem dX6_ofTwo_74 : decode cX6_ofTwo 74 = .ok (.iadd, 1) := by decide +kernel
theorem dX6_ofTwo_75 : decode cX6_ofTwo 75 = .ok (.iaload, 1) := by decide +kernel
theorem dX6_ofTwo_76 : decode cX6_ofTwo 76 = .ok (.ifCond .le 7, 3) := by decide +kernel
theorem dX6_ofTwo_79 : decode cX6_ofTwo 79 = .ok (.iconst 1, 1) := by decide +kernel
theorem dX6_ofTwo_80 : decode cX6_ofTwo 80 = .ok (.goto 4, 3) := by decide +kernel
theorem dX6_ofTwo_83 : decode cX6_ofTwo 83 = .ok (.iconst 0, 1) := by decide +kernel
theorem dX6_ofTwo_84 : decode cX6_ofTwo 84 = .ok (.ireturn, 1) := by decide +kernel
theorem dX6_ofTwo_85 : decode cX6_ofTwo 85 = .ok (.aload_n 0, 1) := by decide +kernel
theorem dX6_ofTwo_86 : decode cX6_ofTwo 86 = .ok (.getfield 7, 3) := by decide +kernel
theorem dX6_ofTwo_89 : decode cX6_ofTwo 89 = .ok (.sipush 161, 3) := by decide +kernel
theorem dX6_ofTwo_92 : decode cX6_ofTwo 92 = .ok (.bipush 8, 2) := by decide +kernel
theorem dX6_ofTwo_94 : decode cX6_ofTwo 94 = .ok (.iload_n 1, 1) := by decide +kernel
theorem dX6_ofTwo_95 : decode cX6_ofTwo 95 = .ok (.imul, 1) := by decide +kernel
theorem dX6_ofTwo_96 : decode cX6_ofTwo 96 = .ok (.iadd, 1) := by decide +kernel
