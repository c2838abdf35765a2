theorem dX6_ofTwo_97 : decode cX6_ofTwo 97 = .ok (.iload_n 2, 1) := by decide +kernel
theorem dX6_ofTwo_98 : decode cX6_ofTwo 98 = .ok (.iadd, 1) := by decide +kernel
theorem dX6_ofTwo_99 : decode cX6_ofTwo 99 = .ok (.iaload, 1) := by decide +kernel
theorem dX6_ofTwo_100 : decode cX6_ofTwo 100 = .ok (.ireturn, 1) := by decide +kernel
theorem dX6_ofTwo_101 : decode cX6_ofTwo 101 = .ok (.aload_n 0, 1) := by decide +kernel
theorem dX6_ofTwo_102 : decode cX6_ofTwo 102 = .ok (.iload_n 1, 1) := by decide +kernel
theorem dX6_ofTwo_103 : decode cX6_ofTwo 103 = .ok (.iload_n 2, 1) := by decide +kernel
theorem dX6_ofTwo_104 : decode cX6_ofTwo 104 = .ok (.invokevirtual 65, 3) := by decide +kernel
theorem dX6_ofTwo_107 : decode cX6_ofTwo 107 = .ok (.ifCond .eq 7, 3) := by decide +kernel
theorem dX6_ofTwo_110 : decode cX6_ofTwo 110 = .ok (.iconst 1, 1) := by decide +kernel
theorem dX6_ofTwo_111 : decode cX6_ofTwo 111 = .ok (.goto 4, 3) := by decide +kernel
theorem dX6_ofTwo_114 : decode cX6_ofTwo 114 = .ok (.iconst 0, 1) := by decide +kernel
theorem dX6_ofTwo_115 : decode cX6_ofTwo 115 = .ok (.ireturn, 1) := by decide +kernel
set_option maxRecDepth 20000 in
theorem ggX6_person_X6_isPerson : GoodIn wsX6_person wsX6_isPerson := goodIn_r _ [6, 7, 8, 5, 9] (by decide +kernel) (by decide +kernel)
set_option maxRecDepth 20000 in
theorem gX6_person_X6_isPerson : GoodIn wsX6_person (va_wsS RX6 51 yX6_isPerson wsX6_isPerson) := goodIn_app (goodIn_of _ (by decide +kernel)) ggX6_person_X6_isPerson
set_option maxRecDepth 20000 in
theorem ggX6_person_X6_in : GoodIn wsX6_person wsX6_in := goodIn_r _ [9] (by decide +kernel) (by decide +kernel)
set_option maxRecDepth 20000 in
theorem gX6_person_X6_in : GoodIn wsX6_person (va_wsS RX6 47 yX6_in wsX6_in) := goodIn_app (goodIn_of _ (by decide +kernel)) ggX6_person_X6_in
set_option maxRecDepth 20000 in
theorem ggX6_person_X6_ofTwo : GoodIn wsX6_person wsX6_ofTwo := goodIn_r _ [13, 2, 14, 15, 16, 5, 17, 18, 19, 20, 21, 22, 23, 24, 25, 26, 27, 28, 29, 30, 31, 32, 33, 34, 35, 36, 37, 38, 39, 40, 41, 42, 43, 44, 45, 46, 47] (by decide +kernel) (by decide +kernel)
set_option maxRecDepth 20000 in
theorem gX6_person_X6_ofTwo : GoodIn wsX6_person (wsV RX6 138 RX6 yX6_ofTwo wsX6_ofTwo) := goodIn_app (goodIn_of _ (by decide +kernel)) ggX6_person_X6_ofTwo
theorem dX6_person_0 : decode cX6_person 0 = .ok (.aload_n 0, 1) := by decide +kernel
theorem dX6_person_1 : decode cX6_person 1 = .ok (.iconst 0, 1) := by decide +kernel
theorem dX6_person_2 : decode cX6_person 2 = .ok (.putfield 43, 3) := by decide +kernel
theorem dX6_person_5 : decode cX6_person 5 = .ok (.iload_n 2, 1) := by decide +kernel
theorem dX6_person_6 : decode cX6_person 6 = .ok (.invokestatic 51, 3) := by decide +kernel
theorem dX6_person_9 : decode cX6_person 9 = .ok (.ifCond .ne 5, 3) := by decide +kernel
theorem dX6_person_12 : decode cX6_person 12 = .ok (.iconst (-1), 1) := by decide +kernel
theorem dX6_person_13 : decode cX6_person 13 = .ok (.ireturn, 1) := by decide +kernel
theorem dX6_person_14 : decode cX6_person 14 = .ok (.iload_n 3, 1) := by decide +kernel
theorem dX6_person_15 : decode cX6_person 15 = .ok (.iconst 0, 1) := by decide +kernel
theorem dX6_person_16 : decode cX6_person 16 = .ok (.iconst 5, 1) := by decide +kernel
theorem dX6_person_17 : decode cX6_person 17 = .ok (.invokestatic 47, 3) := by decide +kernel
theorem dX6_person_20 : decode cX6_person 20 = .ok (.ifCond .ne 6, 3) := by decide +kernel
theorem dX6_person_23 : decode cX6_person 23 = .ok (.bipush (-2), 2) := by decide +kernel
theorem dX6_person_25 : decode cX6_person 25 = .ok (.ireturn, 1) := by decide +kernel
theorem dX6_person_26 : decode cX6_person 26 = .ok (.iload_n 3, 1) := by decide +kernel
theorem dX6_person_27 : decode cX6_person 27 = .ok (.ifCond .ne 23, 3) := by decide +kernel
theorem dX6_person_30 : decode cX6_person 30 = .ok (.aload_n 0, 1) := by decide +kernel
theorem dX6_person_31 : decode cX6_person 31 = .ok (.getfield 7, 3) := by decide +kernel
theorem dX6_person_34 : decode cX6_person 34 = .ok (.iconst 1, 1) := by decide +kernel
theorem dX6_person_35 : decode cX6_person 35 = .ok (.iload_n 1, 1) := by decide +kernel
theorem dX6_person_36 : decode cX6_person 36 = .ok (.ifCond .eq 7, 3) := by decide +kernel
theorem dX6_person_39 : decode cX6_person 39 = .ok (.iconst 0, 1) := by decide +kernel
theorem dX6_person_40 : decode cX6_person 40 = .ok (.goto 5, 3) := by decide +kernel
theorem dX6_person_43 : decode cX6_person 43 = .ok (.bipush 8, 2) := by decide +kernel
theorem dX6_person_45 : decode cX6_person 45 = .ok (.iadd, 1) := by decide +kernel
theorem dX6_person_46 : decode cX6_person 46 = .ok (.iload_n 2, 1) := by decide +kernel
theorem dX6_person_47 : decode cX6_person 47 = .ok (.iadd, 1) := by decide +kernel
theorem dX6_person_48 : decode cX6_person 48 = .ok (.iaload, 1) := by decide +kernel
theorem dX6_person_49 : decode cX6_person 49 = .ok (.ireturn, 1) := by decide +kernel
theorem dX6_person_50 : decode cX6_person 50 = .ok (.iconst 0, 1) := by decide +kernel
theorem dX6_person_51 : decode cX6_person 51 = .ok (.istore 4, 2) := by decide +kernel
theorem dX6_person_53 : decode cX6_person 53 = .ok (.iconst 0, 1) := by decide +kernel
theorem dX6_person_54 : decode cX6_person 54 = .ok (.istore 5, 2) := by decide +kernel
theorem dX6_person_56 : decode cX6_person 56 = .ok (.iload 5, 2) := by decide +kernel
theorem dX6_person_58 : decode cX6_person 58 = .ok (.bipush 8, 2) := by decide +kernel
theorem dX6_person_60 : decode cX6_person 60 = .ok (.if_icmp .ge 54, 3) := by decide +kernel
theorem dX6_person_63 : decode cX6_person 63 = .ok (.iload_n 1, 1) := by decide +kernel
theorem dX6_person_64 : decode cX6_person 64 = .ok (.ifCond .eq 14, 3) := by decide +kernel
theorem dX6_person_67 : decode cX6_person 67 = .ok (.aload_n 0, 1) := by decide +kernel
theorem dX6_person_68 : decode cX6_person 68 = .ok (.iload_n 2, 1) := by decide +kernel
theorem dX6_person_69 : decode cX6_person 69 = .ok (.iload 5, 2) := by decide +kernel
theorem dX6_person_71 : decode cX6_person 71 = .ok (.iload_n 3, 1) := by decide +kernel
theorem dX6_person_72 : decode cX6_person 72 = .ok (.invokevirtual 138, 3) := by decide +kernel
theorem dX6_person_75 : decode cX6_person 75 = .ok (.goto 11, 3) := by decide +kernel
theorem dX6_person_78 : decode cX6_person 78 = .ok (.aload_n 0, 1) := by decide +kernel
theorem dX6_person_79 : decode cX6_person 79 = .ok (.iload 5, 2) := by decide +kernel
theorem dX6_person_81 : decode cX6_person 81 = .ok (.iload_n 2, 1) := by decide +kernel
theorem dX6_person_82 : decode cX6_person 82 = .ok (.iload_n 3, 1) := by decide +kernel
theorem dX6_person_83 : decode cX6_person 83 = .ok (.invokevirtual 138, 3) := by decide +kernel
theorem dX6_person_86 : decode cX6_person 86 = .ok (.istore 6, 2) := by decide +kernel
theorem dX6_person_88 : decode cX6_person 88 = .ok (.iload 4, 2) := by decide +kernel
theorem dX6_person_90 : decode cX6_person 90 = .ok (.iload_n 3, 1) := by decide +kernel
theorem dX6_person_91 : decode cX6_person 91 = .ok (.iconst 5, 1) := by decide +kernel
theorem dX6_person_92 : decode cX6_person 92 = .ok (.if_icmp .ne 11, 3) := by decide +kernel
theorem dX6_person_95 : decode cX6_person 95 = .ok (.iload 6, 2) := by decide +kernel
theorem dX6_person_97 : decode cX6_person 97 = .ok (.iload 5, 2) := by decide +kernel
theorem dX6_person_99 : decode cX6_person 99 = .ok (.ishl, 1) := by decide +kernel
theorem dX6_person_100 : decode cX6_person 100 = .ok (.goto 5, 3) := by decide +kernel
theorem dX6_person_103 : decode cX6_person 103 = .ok (.iload 6, 2) := by decide +kernel
theorem dX6_person_105 : decode cX6_person 105 = .ok (.iadd, 1) := by decide +kernel
theorem dX6_person_106 : decode cX6_person 106 = .ok (.istore 4, 2) := by decide +kernel
theorem dX6_person_108 : decode cX6_person 108 = .ok (.iinc 5 1, 3) := by decide +kernel
theorem dX6_person_111 : decode cX6_person 111 = .ok (.goto (-55), 3) := by decide +kernel
theorem dX6_person_114 : decode cX6_person 114 = .ok (.iload 4, 2) := by decide +kernel
theorem dX6_person_116 : decode cX6_person 116 = .ok (.ireturn, 1) := by decide +kernel
set_option maxRecDepth 20000 in
theorem ggX6_why_X6_isOpen : GoodIn wsX6_why wsX6_isOpen := goodIn_r _ [7, 1, 46, 47, 48, 49, 50, 51, 52, 53, 54, 55, 56, 57, 58, 59, 60, 61, 62, 63] (by decide +kernel) (by decide +kernel)
set_option maxRecDepth 20000 in
theorem gX6_why_X6_isOpen : GoodIn wsX6_why (wsV RX6 62 RX6 yX6_isOpen wsX6_isOpen) := goodIn_app (goodIn_of _ (by decide +kernel)) ggX6_why_X6_isOpen
set_option maxRecDepth 20000 in
theorem ggX6_why_X6_areLinked : GoodIn wsX6_why wsX6_areLinked := goodIn_r _ [11, 1, 46, 47, 48, 49, 50, 51, 52, 53, 54, 55, 56, 57, 58, 59, 60, 61, 62, 63] (by decide +kernel) (by decide +kernel)
set_option maxRecDepth 20000 in
theorem gX6_why_X6_areLinked : GoodIn wsX6_why (wsV RX6 58 RX6 yX6_areLinked wsX6_areLinked) := goodIn_app (goodIn_of _ (by decide +kernel)) ggX6_why_X6_areLinked
set_option maxRecDepth 20000 in
theorem ggX6_why_X6_matches : GoodIn wsX6_why wsX6_matches := goodIn_r _ [15, 2, 16, 17, 18, 6, 19, 20, 21, 22, 23, 24, 3, 4, 5, 7, 1, 25, 26, 27, 28, 8, 9, 10, 11, 29, 30, 31, 32, 33, 34, 35, 36, 37, 38, 39, 40, 41, 42, 43, 44, 45, 46, 47, 48, 49, 50, 51, 52, 53, 54, 55, 56, 57, 58, 59, 60, 61, 62, 63] (by decide +kernel) (by decide +kernel)
set_option maxRecDepth 20000 in
theorem gX6_why_X6_matches : GoodIn wsX6_why (wsV RX6 101 RX6 yX6_matches wsX6_matches) := goodIn_app (goodIn_of _ (by decide +kernel)) ggX6_why_X6_matches
theorem dX6_why_0 : decode cX6_why 0 = .ok (.aload_n 0, 1) := by decide +kernel
theorem dX6_why_1 : decode cX6_why 1 = .ok (.iload_n 1, 1) := by decide +kernel
theorem dX6_why_2 : decode cX6_why 2 = .ok (.iload_n 2, 1) := by decide +kernel
theorem dX6_why_3 : decode cX6_why 3 = .ok (.invokevirtual 62, 3) := by decide +kernel
theorem dX6_why_6 : decode cX6_why 6 = .ok (.ifCond .ne 5, 3) := by decide +kernel
theorem dX6_why_9 : decode cX6_why 9 = .ok (.iconst 1, 1) := by decide +kernel
theorem dX6_why_10 : decode cX6_why 10 = .ok (.ireturn, 1) := by decide +kernel
theorem dX6_why_11 : decode cX6_why 11 = .ok (.aload_n 0, 1) := by decide +kernel
theorem dX6_why_12 : decode cX6_why 12 = .ok (.iload_n 1, 1) := by decide +kernel
theorem dX6_why_13 : decode cX6_why 13 = .ok (.iload_n 2, 1) := by decide +kernel
theorem dX6_why_14 : decode cX6_why 14 = .ok (.invokevirtual 58, 3) := by decide +kernel
theorem dX6_why_17 : decode cX6_why 17 = .ok (.ifCond .ne 5, 3) := by decide +kernel
theorem dX6_why_20 : decode cX6_why 20 = .ok (.iconst 2, 1) := by decide +kernel
theorem dX6_why_21 : decode cX6_why 21 = .ok (.ireturn, 1) := by decide +kernel
theorem dX6_why_22 : decode cX6_why 22 = .ok (.aload_n 0, 1) := by decide +kernel
theorem dX6_why_23 : decode cX6_why 23 = .ok (.getfield 7, 3) := by decide +kernel
theorem dX6_why_26 : decode cX6_why 26 = .ok (.bipush 33, 2) := by decide +kernel
theorem dX6_why_28 : decode cX6_why 28 = .ok (.bipush 8, 2) := by decide +kernel
theorem dX6_why_30 : decode cX6_why 30 = .ok (.iload_n 1, 1) := by decide +kernel
theorem dX6_why_31 : decode cX6_why 31 = .ok (.imul, 1) := by decide +kernel
theorem dX6_why_32 : decode cX6_why 32 = .ok (.iadd, 1) := by decide +kernel
theorem dX6_why_33 : decode cX6_why 33 = .ok (.iload_n 2, 1) := by decide +kernel
theorem dX6_why_34 : decode cX6_why 34 = .ok (.iadd, 1) := by decide +kernel
theorem dX6_why_35 : decode cX6_why 35 = .ok (.iaload, 1) := by decide +kernel
theorem dX6_why_36 : decode cX6_why 36 = .ok (.ifCond .le 5, 3) := by decide +kernel
theorem dX6_why_39 : decode cX6_why 39 = .ok (.iconst 3, 1) := by decide +kernel
theorem dX6_why_40 : decode cX6_why 40 = .ok (.ireturn, 1) := by decide +kernel
theorem dX6_why_41 : decode cX6_why 41 = .ok (.aload_n 0, 1) := by decide +kernel
theorem dX6_why_42 : decode cX6_why 42 = .ok (.invokevirtual 101, 3) := by decide +kernel
theorem dX6_why_45 : decode cX6_why 45 = .ok (.pop, 1) := by decide +kernel
theorem dX6_why_46 : decode cX6_why 46 = .ok (.aload_n 0, 1) := by decide +kernel
theorem dX6_why_47 : decode cX6_why 47 = .ok (.getfield 31, 3) := by decide +kernel
theorem dX6_why_50 : decode cX6_why 50 = .ok (.iload_n 1, 1) := by decide +kernel
theorem dX6_why_51 : decode cX6_why 51 = .ok (.iaload, 1) := by decide +kernel
theorem dX6_why_52 : decode cX6_why 52 = .ok (.iload_n 2, 1) := by decide +kernel
theorem dX6_why_53 : decode cX6_why 53 = .ok (.if_icmp .ne 7, 3) := by decide +kernel
theorem dX6_why_56 : decode cX6_why 56 = .ok (.iconst 0, 1) := by decide +kernel
theorem dX6_why_57 : decode cX6_why 57 = .ok (.goto 4, 3) := by decide +kernel
theorem dX6_why_60 : decode cX6_why 60 = .ok (.iconst 4, 1) := by decide +kernel
theorem dX6_why_61 : decode cX6_why 61 = .ok (.ireturn, 1) := by decide +kernel
set_option maxRecDepth 20000 in
theorem ggX6_pair_X6_isPair : GoodIn wsX6_pair wsX6_isPair := goodIn_r _ [6, 7, 8, 5, 9, 10, 11, 12] (by decide +kernel) (by decide +kernel)
set_option maxRecDepth 20000 in
theorem gX6_pair_X6_isPair : GoodIn wsX6_pair (va_wsS RX6 89 yX6_isPair wsX6_isPair) := goodIn_app (goodIn_of _ (by decide +kernel)) ggX6_pair_X6_isPair
set_option maxRecDepth 20000 in
theorem ggX6_pair_X6_why : GoodIn wsX6_pair wsX6_why := goodIn_r _ [16, 2, 17, 18, 19, 20, 5, 21, 22, 23, 24, 25, 26, 27, 28, 29, 30, 31, 32, 33, 34, 35, 36, 37, 38, 39, 40, 41, 42, 43, 44, 45, 46, 47, 48, 49, 50, 51, 52, 53, 54, 55, 56, 57, 58, 59, 60, 61, 62, 63, 64, 65, 66, 67, 68, 69, 70, 71, 72, 73, 74, 75, 76, 77] (by decide +kernel) (by decide +kernel)
set_option maxRecDepth 20000 in
theorem gX6_pair_X6_why : GoodIn wsX6_pair (wsV RX6 142 RX6 yX6_why wsX6_why) := goodIn_app (goodIn_of _ (by decide +kernel)) ggX6_pair_X6_why
theorem dX6_pair_0 : decode cX6_pair 0 = .ok (.aload_n 0, 1) := by decide +kernel
theorem dX6_pair_1 : decode cX6_pair 1 = .ok (.iconst 0, 1) := by decide +kernel
theorem dX6_pair_2 : decode cX6_pair 2 = .ok (.putfield 43, 3) := by decide +kernel
theorem dX6_pair_5 : decode cX6_pair 5 = .ok (.iload_n 1, 1) := by decide +kernel
theorem dX6_pair_6 : decode cX6_pair 6 = .ok (.iload_n 2, 1) := by decide +kernel
theorem dX6_pair_7 : decode cX6_pair 7 = .ok (.invokestatic 89, 3) := by decide +kernel
theorem dX6_pair_10 : decode cX6_pair 10 = .ok (.ifCond .ne 5, 3) := by decide +kernel
theorem dX6_pair_13 : decode cX6_pair 13 = .ok (.iconst (-1), 1) := by decide +kernel
theorem dX6_pair_14 : decode cX6_pair 14 = .ok (.ireturn, 1) := by decide +kernel
theorem dX6_pair_15 : decode cX6_pair 15 = .ok (.iload_n 3, 1) := by decide +kernel
theorem dX6_pair_16 : decode cX6_pair 16 = .ok (.tableswitch 85 0 3 #[32, 47, 62, 78], 32) := by decide +kernel
theorem dX6_pair_48 : decode cX6_pair 48 = .ok (.aload_n 0, 1) := by decide +kernel
theorem dX6_pair_49 : decode cX6_pair 49 = .ok (.getfield 7, 3) := by decide +kernel
theorem dX6_pair_52 : decode cX6_pair 52 = .ok (.bipush 97, 2) := by decide +kernel
theorem dX6_pair_54 : decode cX6_pair 54 = .ok (.bipush 8, 2) := by decide +kernel
theorem dX6_pair_56 : decode cX6_pair 56 = .ok (.iload_n 1, 1) := by decide +kernel
theorem dX6_pair_57 : decode cX6_pair 57 = .ok (.imul, 1) := by decide +kernel
theorem dX6_pair_58 : decode cX6_pair 58 = .ok (.iadd, 1) := by decide +kernel
theorem dX6_pair_59 : decode cX6_pair 59 = .ok (.iload_n 2, 1) := by decide +kernel
theorem dX6_pair_60 : decode cX6_pair 60 = .ok (.iadd, 1) := by decide +kernel
theorem dX6_pair_61 : decode cX6_pair 61 = .ok (.iaload, 1) := by decide +kernel
theorem dX6_pair_62 : decode cX6_pair 62 = .ok (.ireturn, 1) := by decide +kernel
theorem dX6_pair_63 : decode cX6_pair 63 = .ok (.aload_n 0, 1) := by decide +kernel
theorem dX6_pair_64 : decode cX6_pair 64 = .ok (.getfield 7, 3) := by decide +kernel
theorem dX6_pair_67 : decode cX6_pair 67 = .ok (.bipush 33, 2) := by decide +kernel
theorem dX6_pair_69 : decode cX6_pair 69 = .ok (.bipush 8, 2) := by decide +kernel
theorem dX6_pair_71 : decode cX6_pair 71 = .ok (.iload_n 1, 1) := by decide +kernel
theorem dX6_pair_72 : decode cX6_pair 72 = .ok (.imul, 1) := by decide +kernel
theorem dX6_pair_73 : decode cX6_pair 73 = .ok (.iadd, 1) := by decide +kernel
theorem dX6_pair_74 : decode cX6_pair 74 = .ok (.iload_n 2, 1) := by decide +kernel
theorem dX6_pair_75 : decode cX6_pair 75 = .ok (.iadd, 1) := by decide +kernel
theorem dX6_pair_76 : decode cX6_pair 76 = .ok (.iaload, 1) := by decide +kernel
theorem dX6_pair_77 : decode cX6_pair 77 = .ok (.ireturn, 1) := by decide +kernel
theorem dX6_pair_78 : decode cX6_pair 78 = .ok (.aload_n 0, 1) := by decide +kernel
theorem dX6_pair_79 : decode cX6_pair 79 = .ok (.getfield 7, 3) := by decide +kernel
theorem dX6_pair_82 : decode cX6_pair 82 = .ok (.sipush 161, 3) := by decide +kernel
theorem dX6_pair_85 : decode cX6_pair 85 = .ok (.bipush 8, 2) := by decide +kernel
theorem dX6_pair_87 : decode cX6_pair 87 = .ok (.iload_n 1, 1) := by decide +kernel
theorem dX6_pair_88 : decode cX6_pair 88 = .ok (.imul, 1) := by decide +kernel
theorem dX6_pair_89 : decode cX6_pair 89 = .ok (.iadd, 1) := by decide +kernel
theorem dX6_pair_90 : decode cX6_pair 90 = .ok (.iload_n 2, 1) := by decide +kernel
theorem dX6_pair_91 : decode cX6_pair 91 = .ok (.iadd, 1) := by decide +kernel
theorem dX6_pair_92 : decode cX6_pair 92 = .ok (.iaload, 1) := by decide +kernel
theorem dX6_pair_93 : decode cX6_pair 93 = .ok (.ireturn, 1) := by decide +kernel
theorem dX6_pair_94 : decode cX6_pair 94 = .ok (.aload_n 0, 1) := by decide +kernel
theorem dX6_pair_95 : decode cX6_pair 95 = .ok (.iload_n 1, 1) := by decide +kernel
theorem dX6_pair_96 : decode cX6_pair 96 = .ok (.iload_n 2, 1) := by decide +kernel
theorem dX6_pair_97 : decode cX6_pair 97 = .ok (.invokevirtual 142, 3) := by decide +kernel
theorem dX6_pair_100 : decode cX6_pair 100 = .ok (.ireturn, 1) := by decide +kernel
theorem dX6_pair_101 : decode cX6_pair 101 = .ok (.bipush (-2), 2) := by decide +kernel
theorem dX6_pair_103 : decode cX6_pair 103 = .ok (.ireturn, 1) := by decide +kernel
set_option maxRecDepth 20000 in
theorem ggX6_isLinked_X6_isGate : GoodIn wsX6_isLinked wsX6_isGate := goodIn_r _ [6, 7, 8, 5, 9] (by decide +kernel) (by decide +kernel)
set_option maxRecDepth 20000 in
theorem gX6_isLinked_X6_isGate : GoodIn wsX6_isLinked (va_wsS RX6 98 yX6_isGate wsX6_isGate) := goodIn_app (goodIn_of _ (by decide +kernel)) ggX6_isLinked_X6_isGate
theorem dX6_isLinked_0 : decode cX6_isLinked 0 = .ok (.aload_n 0, 1) := by decide +kernel
theorem dX6_isLinked_1 : decode cX6_isLinked 1 = .ok (.iconst 0, 1) := by decide +kernel
theorem dX6_isLinked_2 : decode cX6_isLinked 2 = .ok (.putfield 43, 3) := by decide +kernel
theorem dX6_isLinked_5 : decode cX6_isLinked 5 = .ok (.iload_n 1, 1) := by decide +kernel
theorem dX6_isLinked_6 : decode cX6_isLinked 6 = .ok (.invokestatic 98, 3) := by decide +kernel
theorem dX6_isLinked_9 : decode cX6_isLinked 9 = .ok (.ifCond .eq 26, 3) := by decide +kernel
theorem dX6_isLinked_12 : decode cX6_isLinked 12 = .ok (.iload_n 2, 1) := by decide +kernel
theorem dX6_isLinked_13 : decode cX6_isLinked 13 = .ok (.invokestatic 98, 3) := by decide +kernel
theorem dX6_isLinked_16 : decode cX6_isLinked 16 = .ok (.ifCond .eq 19, 3) := by decide +kernel
theorem dX6_isLinked_19 : decode cX6_isLinked 19 = .ok (.aload_n 0, 1) := by decide +kernel
theorem dX6_isLinked_20 : decode cX6_isLinked 20 = .ok (.getfield 7, 3) := by decide +kernel
theorem dX6_isLinked_23 : decode cX6_isLinked 23 = .ok (.bipush 17, 2) := by decide +kernel
theorem dX6_isLinked_25 : decode cX6_isLinked 25 = .ok (.iconst 4, 1) := by decide +kernel
theorem dX6_isLinked_26 : decode cX6_isLinked 26 = .ok (.iload_n 1, 1) := by decide +kernel
theorem dX6_isLinked_27 : decode cX6_isLinked 27 = .ok (.imul, 1) := by decide +kernel
theorem dX6_isLinked_28 : decode cX6_isLinked 28 = .ok (.iadd, 1) := by decide +kernel
theorem dX6_isLinked_29 : decode cX6_isLinked 29 = .ok (.iload_n 2, 1) := by decide +kernel
theorem dX6_isLinked_30 : decode cX6_isLinked 30 = .ok (.iadd, 1) := by decide +kernel
theorem dX6_isLinked_31 : decode cX6_isLinked 31 = .ok (.iaload, 1) := by decide +kernel
theorem dX6_isLinked_32 : decode cX6_isLinked 32 = .ok (.goto 4, 3) := by decide +kernel
theorem dX6_isLinked_35 : decode cX6_isLinked 35 = .ok (.iconst (-1), 1) := by decide +kernel
theorem dX6_isLinked_36 : decode cX6_isLinked 36 = .ok (.ireturn, 1) := by decide +kernel
set_option maxRecDepth 20000 in
theorem ggX6_partner_X6_isPerson : GoodIn wsX6_partner wsX6_isPerson := goodIn_r _ [6, 7, 8, 5, 9] (by decide +kernel) (by decide +kernel)
set_option maxRecDepth 20000 in
theorem gX6_partner_X6_isPerson : GoodIn wsX6_partner (va_wsS RX6 51 yX6_isPerson wsX6_isPerson) := goodIn_app (goodIn_of _ (by decide +kernel)) ggX6_partner_X6_isPerson
set_option maxRecDepth 20000 in
theorem ggX6_partner_X6_matches : GoodIn wsX6_partner wsX6_matches := goodIn_r _ [13, 2, 14, 15, 16, 5, 17, 18, 19, 20, 21, 22, 23, 24, 25, 26, 27, 28, 29, 30, 31, 32, 33, 34, 35, 36, 37, 38, 39, 40, 41, 42, 43, 44, 45, 46, 47, 48, 49, 50, 51, 52, 53, 54, 55, 56, 57, 58, 59, 60, 61, 62, 63, 64, 65, 66, 67, 68, 69, 70] (by decide +kernel) (by decide +kernel)
set_option maxRecDepth 20000 in
theorem gX6_partner_X6_matches : GoodIn wsX6_partner (wsV RX6 101 RX6 yX6_matches wsX6_matches) := goodIn_app (goodIn_of _ (by decide +kernel)) ggX6_partner_X6_matches
theorem dX6_partner_0 : decode cX6_partner 0 = .ok (.aload_n 0, 1) := by decide +kernel
theorem dX6_partner_1 : decode cX6_partner 1 = .ok (.iconst 0, 1) := by decide +kernel
theorem dX6_partner_2 : decode cX6_partner 2 = .ok (.putfield 43, 3) := by decide +kernel
theorem dX6_partner_5 : decode cX6_partner 5 = .ok (.iload_n 2, 1) := by decide +kernel
theorem dX6_partner_6 : decode cX6_partner 6 = .ok (.invokestatic 51, 3) := by decide +kernel
theorem dX6_partner_9 : decode cX6_partner 9 = .ok (.ifCond .ne 5, 3) := by decide +kernel
theorem dX6_partner_12 : decode cX6_partner 12 = .ok (.iconst (-1), 1) := by decide +kernel
theorem dX6_partner_13 : decode cX6_partner 13 = .ok (.ireturn, 1) := by decide +kernel
theorem dX6_partner_14 : decode cX6_partner 14 = .ok (.aload_n 0, 1) := by decide +kernel
theorem dX6_partner_15 : decode cX6_partner 15 = .ok (.invokevirtual 101, 3) := by decide +kernel
theorem dX6_partner_18 : decode cX6_partner 18 = .ok (.pop, 1) := by decide +kernel
theorem dX6_partner_19 : decode cX6_partner 19 = .ok (.bipush (-5), 2) := by decide +kernel
theorem dX6_partner_21 : decode cX6_partner 21 = .ok (.istore_n 3, 1) := by decide +kernel
theorem dX6_partner_22 : decode cX6_partner 22 = .ok (.iconst 0, 1) := by decide +kernel
theorem dX6_partner_23 : decode cX6_partner 23 = .ok (.istore 4, 2) := by decide +kernel
theorem dX6_partner_25 : decode cX6_partner 25 = .ok (.iload 4, 2) := by decide +kernel
theorem dX6_partner_27 : decode cX6_partner 27 = .ok (.bipush 8, 2) := by decide +kernel
theorem dX6_partner_29 : decode cX6_partner 29 = .ok (.if_icmp .ge 31, 3) := by decide +kernel
theorem dX6_partner_32 : decode cX6_partner 32 = .ok (.iload_n 1, 1) := by decide +kernel
theorem dX6_partner_33 : decode cX6_partner 33 = .ok (.ifCond .ne 19, 3) := by decide +kernel
theorem dX6_partner_36 : decode cX6_partner 36 = .ok (.aload_n 0, 1) := by decide +kernel
theorem dX6_partner_37 : decode cX6_partner 37 = .ok (.getfield 31, 3) := by decide +kernel
theorem dX6_partner_40 : decode cX6_partner 40 = .ok (.iload 4, 2) := by decide +kernel
theorem dX6_partner_42 : decode cX6_partner 42 = .ok (.iaload, 1) := by decide +kernel
theorem dX6_partner_43 : decode cX6_partner 43 = .ok (.iload_n 2, 1) := by decide +kernel
theorem dX6_partner_44 : decode cX6_partner 44 = .ok (.if_icmp .ne 8, 3) := by decide +kernel
theorem dX6_partner_47 : decode cX6_partner 47 = .ok (.iload 4, 2) := by decide +kernel
theorem dX6_partner_49 : decode cX6_partner 49 = .ok (.goto 4, 3) := by decide +kernel
theorem dX6_partner_52 : decode cX6_partner 52 = .ok (.iload_n 3, 1) := by decide +kernel
theorem dX6_partner_53 : decode cX6_partner 53 = .ok (.istore_n 3, 1) := by decide +kernel
theorem dX6_partner_54 : decode cX6_partner 54 = .ok (.iinc 4 1, 3) := by decide +kernel
theorem dX6_partner_57 : decode cX6_partner 57 = .ok (.goto (-32), 3) := by decide +kernel
theorem dX6_partner_60 : decode cX6_partner 60 = .ok (.iload_n 1, 1) := by decide +kernel
theorem dX6_partner_61 : decode cX6_partner 61 = .ok (.ifCond .eq 12, 3) := by decide +kernel
theorem dX6_partner_64 : decode cX6_partner 64 = .ok (.aload_n 0, 1) := by decide +kernel
theorem dX6_partner_65 : decode cX6_partner 65 = .ok (.getfield 31, 3) := by decide +kernel
theorem dX6_partner_68 : decode cX6_partner 68 = .ok (.iload_n 2, 1) := by decide +kernel
theorem dX6_partner_69 : decode cX6_partner 69 = .ok (.iaload, 1) := by decide +kernel
theorem dX6_partner_70 : decode cX6_partner 70 = .ok (.goto 4, 3) := by decide +kernel
theorem dX6_partner_73 : decode cX6_partner 73 = .ok (.iload_n 3, 1) := by decide +kernel
theorem dX6_partner_74 : decode cX6_partner 74 = .ok (.ireturn, 1) := by decide +kernel
set_option maxRecDepth 20000 in
theorem ggX6_hindered_X6_matches : GoodIn wsX6_hindered wsX6_matches := goodIn_r _ [7, 8, 9, 10, 11, 6, 12, 2, 13, 14, 15, 16, 17, 18, 19, 20, 21, 22, 23, 24, 25, 26, 27, 28, 29, 30, 31, 32, 33, 34, 35, 36, 37, 38, 39, 40, 41, 42, 43, 44, 45, 46, 47, 48, 49, 50, 51, 52, 53, 54, 55, 56, 57, 58, 59, 60, 61, 62, 63, 64] (by decide +kernel) (by decide +kernel)
set_option maxRecDepth 20000 in
theorem gX6_hindered_X6_matches : GoodIn wsX6_hindered (wsV RX6 101 RX6 yX6_matches wsX6_matches) := goodIn_app (goodIn_of _ (by decide +kernel)) ggX6_hindered_X6_matches
set_option maxRecDepth 20000 in
theorem ggX6_hindered_X6_findsCan : GoodIn wsX6_hindered wsX6_findsCan := goodIn_r _ [12, 2, 13, 14, 15, 6, 16, 17, 18, 19, 20, 21, 22, 23, 24, 25, 26, 27, 28, 29, 47, 48, 49, 50, 51, 52, 53, 54, 55, 56, 57, 58, 59, 60, 61, 62, 63, 64] (by decide +kernel) (by decide +kernel)
set_option maxRecDepth 20000 in
theorem gX6_hindered_X6_findsCan : GoodIn wsX6_hindered (wsV RX6 78 RX6 yX6_findsCan wsX6_findsCan) := goodIn_app (goodIn_of _ (by decide +kernel)) ggX6_hindered_X6_findsCan
set_option maxRecDepth 20000 in
theorem ggX6_hindered_X6_fills : GoodIn wsX6_hindered wsX6_fills := goodIn_r _ [33, 34, 35, 36, 37, 6, 38, 2, 39, 40, 41, 42, 47, 48, 49, 50, 51, 52, 53, 54, 55, 56, 57, 58, 59, 60, 61, 62, 63, 64] (by decide +kernel) (by decide +kernel)
set_option maxRecDepth 20000 in
theorem gX6_hindered_X6_fills : GoodIn wsX6_hindered (wsV RX6 82 RX6 yX6_fills wsX6_fills) := goodIn_app (goodIn_of _ (by decide +kernel)) ggX6_hindered_X6_fills
theorem dX6_hindered_0 : decode cX6_hindered 0 = .ok (.aload_n 0, 1) := by decide +kernel
theorem dX6_hindered_1 : decode cX6_hindered 1 = .ok (.iconst 0, 1) := by decide +kernel
theorem dX6_hindered_2 : decode cX6_hindered 2 = .ok (.putfield 43, 3) := by decide +kernel
theorem dX6_hindered_5 : decode cX6_hindered 5 = .ok (.aload_n 0, 1) := by decide +kernel
theorem dX6_hindered_6 : decode cX6_hindered 6 = .ok (.invokevirtual 101, 3) := by decide +kernel
theorem dX6_hindered_9 : decode cX6_hindered 9 = .ok (.istore_n 1, 1) := by decide +kernel
theorem dX6_hindered_10 : decode cX6_hindered 10 = .ok (.iconst 0, 1) := by decide +kernel
theorem dX6_hindered_11 : decode cX6_hindered 11 = .ok (.istore_n 2, 1) := by decide +kernel
theorem dX6_hindered_12 : decode cX6_hindered 12 = .ok (.iconst 0, 1) := by decide +kernel
theorem dX6_hindered_13 : decode cX6_hindered 13 = .ok (.istore_n 3, 1) := by decide +kernel
theorem dX6_hindered_14 : decode cX6_hindered 14 = .ok (.iconst 0, 1) := by decide +kernel
theorem dX6_hindered_15 : decode cX6_hindered 15 = .ok (.istore 4, 2) := by decide +kernel
theorem dX6_hindered_17 : decode cX6_hindered 17 = .ok (.iload 4, 2) := by decide +kernel
theorem dX6_hindered_19 : decode cX6_hindered 19 = .ok (.bipush 8, 2) := by decide +kernel
theorem dX6_hindered_21 : decode cX6_hindered 21 = .ok (.if_icmp .ge 30, 3) := by decide +kernel
theorem dX6_hindered_24 : decode cX6_hindered 24 = .ok (.iload_n 3, 1) := by decide +kernel
theorem dX6_hindered_25 : decode cX6_hindered 25 = .ok (.aload_n 0, 1) := by decide +kernel
theorem dX6_hindered_26 : decode cX6_hindered 26 = .ok (.getfield 25, 3) := by decide +kernel
theorem dX6_hindered_29 : decode cX6_hindered 29 = .ok (.iload 4, 2) := by decide +kernel
theorem dX6_hindered_31 : decode cX6_hindered 31 = .ok (.iaload, 1) := by decide +kernel
theorem dX6_hindered_32 : decode cX6_hindered 32 = .ok (.ifCond .eq 10, 3) := by decide +kernel
theorem dX6_hindered_35 : decode cX6_hindered 35 = .ok (.iconst 1, 1) := by decide +kernel
theorem dX6_hindered_36 : decode cX6_hindered 36 = .ok (.iload 4, 2) := by decide +kernel
theorem dX6_hindered_38 : decode cX6_hindered 38 = .ok (.ishl, 1) := by decide +kernel
theorem dX6_hindered_39 : decode cX6_hindered 39 = .ok (.goto 4, 3) := by decide +kernel
theorem dX6_hindered_42 : decode cX6_hindered 42 = .ok (.iconst 0, 1) := by decide +kernel
theorem dX6_hindered_43 : decode cX6_hindered 43 = .ok (.ior, 1) := by decide +kernel
theorem dX6_hindered_44 : decode cX6_hindered 44 = .ok (.istore_n 3, 1) := by decide +kernel
theorem dX6_hindered_45 : decode cX6_hindered 45 = .ok (.iinc 4 1, 3) := by decide +kernel
theorem dX6_hindered_48 : decode cX6_hindered 48 = .ok (.goto (-31), 3) := by decide +kernel
theorem dX6_hindered_51 : decode cX6_hindered 51 = .ok (.iconst 0, 1) := by decide +kernel
theorem dX6_hindered_52 : decode cX6_hindered 52 = .ok (.istore 4, 2) := by decide +kernel
theorem dX6_hindered_54 : decode cX6_hindered 54 = .ok (.iload 4, 2) := by decide +kernel
theorem dX6_hindered_56 : decode cX6_hindered 56 = .ok (.bipush 8, 2) := by decide +kernel
theorem dX6_hindered_58 : decode cX6_hindered 58 = .ok (.if_icmp .ge 34, 3) := by decide +kernel
theorem dX6_hindered_61 : decode cX6_hindered 61 = .ok (.aload_n 0, 1) := by decide +kernel
theorem dX6_hindered_62 : decode cX6_hindered 62 = .ok (.iload 4, 2) := by decide +kernel
theorem dX6_hindered_64 : decode cX6_hindered 64 = .ok (.invokevirtual 78, 3) := by decide +kernel
theorem dX6_hindered_67 : decode cX6_hindered 67 = .ok (.iload_n 2, 1) := by decide +kernel
theorem dX6_hindered_68 : decode cX6_hindered 68 = .ok (.aload_n 0, 1) := by decide +kernel
theorem dX6_hindered_69 : decode cX6_hindered 69 = .ok (.invokevirtual 82, 3) := by decide +kernel
theorem dX6_hindered_72 : decode cX6_hindered 72 = .ok (.iload_n 1, 1) := by decide +kernel
theorem dX6_hindered_73 : decode cX6_hindered 73 = .ok (.if_icmp .ne 10, 3) := by decide +kernel
theorem dX6_hindered_76 : decode cX6_hindered 76 = .ok (.iconst 1, 1) := by decide +kernel
theorem dX6_hindered_77 : decode cX6_hindered 77 = .ok (.iload 4, 2) := by decide +kernel
theorem dX6_hindered_79 : decode cX6_hindered 79 = .ok (.ishl, 1) := by decide +kernel
theorem dX6_hindered_80 : decode cX6_hindered 80 = .ok (.goto 4, 3) := by decide +kernel
theorem dX6_hindered_83 : decode cX6_hindered 83 = .ok (.iconst 0, 1) := by decide +kernel
theorem dX6_hindered_84 : decode cX6_hindered 84 = .ok (.ior, 1) := by decide +kernel
theorem dX6_hindered_85 : decode cX6_hindered 85 = .ok (.istore_n 2, 1) := by decide +kernel
theorem dX6_hindered_86 : decode cX6_hindered 86 = .ok (.iinc 4 1, 3) := by decide +kernel
theorem dX6_hindered_89 : decode cX6_hindered 89 = .ok (.goto (-35), 3) := by decide +kernel
theorem dX6_hindered_92 : decode cX6_hindered 92 = .ok (.iload_n 2, 1) := by decide +kernel
theorem dX6_hindered_93 : decode cX6_hindered 93 = .ok (.iload_n 3, 1) := by decide +kernel
theorem dX6_hindered_94 : decode cX6_hindered 94 = .ok (.iand, 1) := by decide +kernel
theorem dX6_hindered_95 : decode cX6_hindered 95 = .ok (.ireturn, 1) := by decide +kernel
theorem dX6_wishWith_0 : decode cX6_wishWith 0 = .ok (.iconst 0, 1) := by decide +kernel
theorem dX6_wishWith_1 : decode cX6_wishWith 1 = .ok (.istore 4, 2) := by decide +kernel
theorem dX6_wishWith_3 : decode cX6_wishWith 3 = .ok (.iload 4, 2) := by decide +kernel
theorem dX6_wishWith_5 : decode cX6_wishWith 5 = .ok (.bipush 8, 2) := by decide +kernel
theorem dX6_wishWith_7 : decode cX6_wishWith 7 = .ok (.if_icmp .ge 46, 3) := by decide +kernel
theorem dX6_wishWith_10 : decode cX6_wishWith 10 = .ok (.iload_n 1, 1) := by decide +kernel
theorem dX6_wishWith_11 : decode cX6_wishWith 11 = .ok (.ifCond .eq 13, 3) := by decide +kernel
theorem dX6_wishWith_14 : decode cX6_wishWith 14 = .ok (.bipush 8, 2) := by decide +kernel
theorem dX6_wishWith_16 : decode cX6_wishWith 16 = .ok (.iload_n 2, 1) := by decide +kernel
theorem dX6_wishWith_17 : decode cX6_wishWith 17 = .ok (.imul, 1) := by decide +kernel
theorem dX6_wishWith_18 : decode cX6_wishWith 18 = .ok (.iload 4, 2) := by decide +kernel
theorem dX6_wishWith_20 : decode cX6_wishWith 20 = .ok (.iadd, 1) := by decide +kernel
theorem dX6_wishWith_21 : decode cX6_wishWith 21 = .ok (.goto 10, 3) := by decide +kernel
theorem dX6_wishWith_24 : decode cX6_wishWith 24 = .ok (.bipush 8, 2) := by decide +kernel
theorem dX6_wishWith_26 : decode cX6_wishWith 26 = .ok (.iload 4, 2) := by decide +kernel
theorem dX6_wishWith_28 : decode cX6_wishWith 28 = .ok (.imul, 1) := by decide +kernel
theorem dX6_wishWith_29 : decode cX6_wishWith 29 = .ok (.iload_n 2, 1) := by decide +kernel
theorem dX6_wishWith_30 : decode cX6_wishWith 30 = .ok (.iadd, 1) := by decide +kernel
theorem dX6_wishWith_31 : decode cX6_wishWith 31 = .ok (.istore 5, 2) := by decide +kernel
theorem dX6_wishWith_33 : decode cX6_wishWith 33 = .ok (.aload_n 0, 1) := by decide +kernel
theorem dX6_wishWith_34 : decode cX6_wishWith 34 = .ok (.getfield 34, 3) := by decide +kernel
theorem dX6_wishWith_37 : decode cX6_wishWith 37 = .ok (.iload 5, 2) := by decide +kernel
theorem dX6_wishWith_39 : decode cX6_wishWith 39 = .ok (.iaload, 1) := by decide +kernel
theorem dX6_wishWith_40 : decode cX6_wishWith 40 = .ok (.iload_n 3, 1) := by decide +kernel
theorem dX6_wishWith_41 : decode cX6_wishWith 41 = .ok (.if_icmp .ne 6, 3) := by decide +kernel
theorem dX6_wishWith_44 : decode cX6_wishWith 44 = .ok (.iload 5, 2) := by decide +kernel
theorem dX6_wishWith_46 : decode cX6_wishWith 46 = .ok (.ireturn, 1) := by decide +kernel
theorem dX6_wishWith_47 : decode cX6_wishWith 47 = .ok (.iinc 4 1, 3) := by decide +kernel
theorem dX6_wishWith_50 : decode cX6_wishWith 50 = .ok (.goto (-47), 3) := by decide +kernel
theorem dX6_wishWith_53 : decode cX6_wishWith 53 = .ok (.bipush (-5), 2) := by decide +kernel
theorem dX6_wishWith_55 : decode cX6_wishWith 55 = .ok (.ireturn, 1) := by decide +kernel
set_option maxRecDepth 20000 in
theorem ggX6_leastFree_X6_wishWith : GoodIn wsX6_leastFree wsX6_wishWith := goodIn_r _ [5, 6, 7, 8, 9, 10, 11, 12, 13, 14, 15, 16, 17, 18, 19, 20, 21, 22, 23, 24] (by decide +kernel) (by decide +kernel)
set_option maxRecDepth 20000 in
theorem gX6_leastFree_X6_wishWith : GoodIn wsX6_leastFree (wsV RX6 145 RX6 yX6_wishWith wsX6_wishWith) := goodIn_app (goodIn_of _ (by decide +kernel)) ggX6_leastFree_X6_wishWith
theorem dX6_leastFree_0 : decode cX6_leastFree 0 = .ok (.iconst 0, 1) := by decide +kernel
theorem dX6_leastFree_1 : decode cX6_leastFree 1 = .ok (.istore_n 3, 1) := by decide +kernel
theorem dX6_leastFree_2 : decode cX6_leastFree 2 = .ok (.aload_n 0, 1) := by decide +kernel
theorem dX6_leastFree_3 : decode cX6_leastFree 3 = .ok (.iload_n 1, 1) := by decide +kernel
theorem dX6_leastFree_4 : decode cX6_leastFree 4 = .ok (.iload_n 2, 1) := by decide +kernel
theorem dX6_leastFree_5 : decode cX6_leastFree 5 = .ok (.iload_n 3, 1) := by decide +kernel
theorem dX6_leastFree_6 : decode cX6_leastFree 6 = .ok (.invokevirtual 145, 3) := by decide +kernel
theorem dX6_leastFree_9 : decode cX6_leastFree 9 = .ok (.bipush (-5), 2) := by decide +kernel
theorem dX6_leastFree_11 : decode cX6_leastFree 11 = .ok (.if_icmp .eq 9, 3) := by decide +kernel
theorem dX6_leastFree_14 : decode cX6_leastFree 14 = .ok (.iinc 3 1, 3) := by decide +kernel
theorem dX6_leastFree_17 : decode cX6_leastFree 17 = .ok (.goto (-15), 3) := by decide +kernel
theorem dX6_leastFree_20 : decode cX6_leastFree 20 = .ok (.iload_n 3, 1) := by decide +kernel
theorem dX6_leastFree_21 : decode cX6_leastFree 21 = .ok (.ireturn, 1) := by decide +kernel
set_option maxRecDepth 20000 in
theorem ggX6_changes_X6_wishWith : GoodIn wsX6_changes wsX6_wishWith := goodIn_r _ [7, 2, 8, 9, 10, 11, 12, 13, 14, 15, 16, 17, 18, 19, 20, 21, 22, 23, 24, 25] (by decide +kernel) (by decide +kernel)
set_option maxRecDepth 20000 in
theorem gX6_changes_X6_wishWith : GoodIn wsX6_changes (wsV RX6 145 RX6 yX6_wishWith wsX6_wishWith) := goodIn_app (goodIn_of _ (by decide +kernel)) ggX6_changes_X6_wishWith
theorem dX6_changes_0 : decode cX6_changes 0 = .ok (.iconst 0, 1) := by decide +kernel
theorem dX6_changes_1 : decode cX6_changes 1 = .ok (.istore 4, 2) := by decide +kernel
theorem dX6_changes_3 : decode cX6_changes 3 = .ok (.iconst 0, 1) := by decide +kernel
theorem dX6_changes_4 : decode cX6_changes 4 = .ok (.istore 5, 2) := by decide +kernel
theorem dX6_changes_6 : decode cX6_changes 6 = .ok (.iload_n 1, 1) := by decide +kernel
theorem dX6_changes_7 : decode cX6_changes 7 = .ok (.istore 6, 2) := by decide +kernel
theorem dX6_changes_9 : decode cX6_changes 9 = .ok (.iload_n 2, 1) := by decide +kernel
theorem dX6_changes_10 : decode cX6_changes 10 = .ok (.istore 7, 2) := by decide +kernel
theorem dX6_changes_12 : decode cX6_changes 12 = .ok (.aload_n 0, 1) := by decide +kernel
theorem dX6_changes_13 : decode cX6_changes 13 = .ok (.iload 5, 2) := by decide +kernel
theorem dX6_changes_15 : decode cX6_changes 15 = .ok (.iload 6, 2) := by decide +kernel
theorem dX6_changes_17 : decode cX6_changes 17 = .ok (.iload 7, 2) := by decide +kernel
theorem dX6_changes_19 : decode cX6_changes 19 = .ok (.invokevirtual 145, 3) := by decide +kernel
theorem dX6_changes_22 : decode cX6_changes 22 = .ok (.istore 8, 2) := by decide +kernel
theorem dX6_changes_24 : decode cX6_changes 24 = .ok (.iload 8, 2) := by decide +kernel
theorem dX6_changes_26 : decode cX6_changes 26 = .ok (.bipush (-5), 2) := by decide +kernel
theorem dX6_changes_28 : decode cX6_changes 28 = .ok (.if_icmp .eq 75, 3) := by decide +kernel
theorem dX6_changes_31 : decode cX6_changes 31 = .ok (.aload_n 0, 1) := by decide +kernel
theorem dX6_changes_32 : decode cX6_changes 32 = .ok (.getfield 37, 3) := by decide +kernel
theorem dX6_changes_35 : decode cX6_changes 35 = .ok (.iload 4, 2) := by decide +kernel
theorem dX6_changes_37 : decode cX6_changes 37 = .ok (.iload 8, 2) := by decide +kernel
theorem dX6_changes_39 : decode cX6_changes 39 = .ok (.iastore, 1) := by decide +kernel
theorem dX6_changes_40 : decode cX6_changes 40 = .ok (.iinc 4 1, 3) := by decide +kernel
theorem dX6_changes_43 : decode cX6_changes 43 = .ok (.iload 5, 2) := by decide +kernel
theorem dX6_changes_45 : decode cX6_changes 45 = .ok (.ifCond .eq 11, 3) := by decide +kernel
theorem dX6_changes_48 : decode cX6_changes 48 = .ok (.iload 8, 2) := by decide +kernel
theorem dX6_changes_50 : decode cX6_changes 50 = .ok (.bipush 8, 2) := by decide +kernel
theorem dX6_changes_52 : decode cX6_changes 52 = .ok (.irem, 1) := by decide +kernel
theorem dX6_changes_53 : decode cX6_changes 53 = .ok (.goto 8, 3) := by decide +kernel
theorem dX6_changes_56 : decode cX6_changes 56 = .ok (.iload 8, 2) := by decide +kernel
theorem dX6_changes_58 : decode cX6_changes 58 = .ok (.bipush 8, 2) := by decide +kernel
theorem dX6_changes_60 : decode cX6_changes 60 = .ok (.idiv, 1) := by decide +kernel
theorem dX6_changes_61 : decode cX6_changes 61 = .ok (.istore 6, 2) := by decide +kernel
theorem dX6_changes_63 : decode cX6_changes 63 = .ok (.iload 5, 2) := by decide +kernel
theorem dX6_changes_65 : decode cX6_changes 65 = .ok (.ifCond .ne 7, 3) := by decide +kernel
theorem dX6_changes_68 : decode cX6_changes 68 = .ok (.iconst 1, 1) := by decide +kernel
theorem dX6_changes_69 : decode cX6_changes 69 = .ok (.goto 4, 3) := by decide +kernel
theorem dX6_changes_72 : decode cX6_changes 72 = .ok (.iconst 0, 1) := by decide +kernel
theorem dX6_changes_73 : decode cX6_changes 73 = .ok (.istore 5, 2) := by decide +kernel
theorem dX6_changes_75 : decode cX6_changes 75 = .ok (.iload 7, 2) := by decide +kernel
theorem dX6_changes_77 : decode cX6_changes 77 = .ok (.iload_n 2, 1) := by decide +kernel
theorem dX6_changes_78 : decode cX6_changes 78 = .ok (.if_icmp .ne 7, 3) := by decide +kernel
theorem dX6_changes_81 : decode cX6_changes 81 = .ok (.iload_n 3, 1) := by decide +kernel
theorem dX6_changes_82 : decode cX6_changes 82 = .ok (.goto 4, 3) := by decide +kernel
theorem dX6_changes_85 : decode cX6_changes 85 = .ok (.iload_n 2, 1) := by decide +kernel
theorem dX6_changes_86 : decode cX6_changes 86 = .ok (.istore 7, 2) := by decide +kernel
theorem dX6_changes_88 : decode cX6_changes 88 = .ok (.aload_n 0, 1) := by decide +kernel
theorem dX6_changes_89 : decode cX6_changes 89 = .ok (.iload 5, 2) := by decide +kernel
theorem dX6_changes_91 : decode cX6_changes 91 = .ok (.iload 6, 2) := by decide +kernel
theorem dX6_changes_93 : decode cX6_changes 93 = .ok (.iload 7, 2) := by decide +kernel
theorem dX6_changes_95 : decode cX6_changes 95 = .ok (.invokevirtual 145, 3) := by decide +kernel
theorem dX6_changes_98 : decode cX6_changes 98 = .ok (.istore 8, 2) := by decide +kernel
theorem dX6_changes_100 : decode cX6_changes 100 = .ok (.goto (-76), 3) := by decide +kernel
theorem dX6_changes_103 : decode cX6_changes 103 = .ok (.iconst 0, 1) := by decide +kernel
theorem dX6_changes_104 : decode cX6_changes 104 = .ok (.istore 9, 2) := by decide +kernel
theorem dX6_changes_106 : decode cX6_changes 106 = .ok (.iload 9, 2) := by decide +kernel
theorem dX6_changes_108 : decode cX6_changes 108 = .ok (.iload 4, 2) := by decide +kernel
theorem dX6_changes_110 : decode cX6_changes 110 = .ok (.if_icmp .ge 42, 3) := by decide +kernel
theorem dX6_changes_113 : decode cX6_changes 113 = .ok (.aload_n 0, 1) := by decide +kernel
theorem dX6_changes_114 : decode cX6_changes 114 = .ok (.getfield 34, 3) := by decide +kernel
theorem dX6_changes_117 : decode cX6_changes 117 = .ok (.aload_n 0, 1) := by decide +kernel
theorem dX6_changes_118 : decode cX6_changes 118 = .ok (.getfield 37, 3) := by decide +kernel
theorem dX6_changes_121 : decode cX6_changes 121 = .ok (.iload 9, 2) := by decide +kernel
theorem dX6_changes_123 : decode cX6_changes 123 = .ok (.iaload, 1) := by decide +kernel
theorem dX6_changes_124 : decode cX6_changes 124 = .ok (.aload_n 0, 1) := by decide +kernel
theorem dX6_changes_125 : decode cX6_changes 125 = .ok (.getfield 34, 3) := by decide +kernel
theorem dX6_changes_128 : decode cX6_changes 128 = .ok (.aload_n 0, 1) := by decide +kernel
theorem dX6_changes_129 : decode cX6_changes 129 = .ok (.getfield 37, 3) := by decide +kernel
theorem dX6_changes_132 : decode cX6_changes 132 = .ok (.iload 9, 2) := by decide +kernel
theorem dX6_changes_134 : decode cX6_changes 134 = .ok (.iaload, 1) := by decide +kernel
theorem dX6_changes_135 : decode cX6_changes 135 = .ok (.iaload, 1) := by decide +kernel
theorem dX6_changes_136 : decode cX6_changes 136 = .ok (.iload_n 2, 1) := by decide +kernel
theorem dX6_changes_137 : decode cX6_changes 137 = .ok (.if_icmp .ne 7, 3) := by decide +kernel
theorem dX6_changes_140 : decode cX6_changes 140 = .ok (.iload_n 3, 1) := by decide +kernel
theorem dX6_changes_141 : decode cX6_changes 141 = .ok (.goto 4, 3) := by decide +kernel
theorem dX6_changes_144 : decode cX6_changes 144 = .ok (.iload_n 2, 1) := by decide +kernel
theorem dX6_changes_145 : decode cX6_changes 145 = .ok (.iastore, 1) := by decide +kernel
theorem dX6_changes_146 : decode cX6_changes 146 = .ok (.iinc 9 1, 3) := by decide +kernel
theorem dX6_changes_149 : decode cX6_changes 149 = .ok (.goto (-43), 3) := by decide +kernel
theorem dX6_changes_152 : decode cX6_changes 152 = .ok (.return_, 1) := by decide +kernel
set_option maxRecDepth 20000 in
theorem ggX6_plans_X6_isPossible : GoodIn wsX6_plans wsX6_isPossible := goodIn_r _ [6, 7, 8, 9, 5, 10, 11, 12, 13, 14, 15, 16, 17, 18, 19, 33, 34, 35, 36, 37, 38, 39, 40, 41, 42, 43, 44, 45, 46, 47, 48, 49, 50] (by decide +kernel) (by decide +kernel)
set_option maxRecDepth 20000 in
theorem gX6_plans_X6_isPossible : GoodIn wsX6_plans (wsV RX6 68 RX6 yX6_isPossible wsX6_isPossible) := goodIn_app (goodIn_of _ (by decide +kernel)) ggX6_plans_X6_isPossible
set_option maxRecDepth 20000 in
theorem ggX6_plans_X6_leastFree : GoodIn wsX6_plans wsX6_leastFree := goodIn_r _ [23, 24, 25, 26, 5, 27, 1, 33, 34, 35, 36, 37, 38, 39, 40, 41, 42, 43, 44, 45, 46, 47, 48, 49, 50] (by decide +kernel) (by decide +kernel)
set_option maxRecDepth 20000 in
theorem gX6_plans_X6_leastFree : GoodIn wsX6_plans (wsV RX6 149 RX6 yX6_leastFree wsX6_leastFree) := goodIn_app (goodIn_of _ (by decide +kernel)) ggX6_plans_X6_leastFree
set_option maxRecDepth 20000 in
theorem ggX6_plans_X6_wishWith : GoodIn wsX6_plans wsX6_wishWith := goodIn_r _ [27, 1, 33, 34, 35, 36, 37, 38, 39, 40, 41, 42, 43, 44, 45, 46, 47, 48, 49, 50] (by decide +kernel) (by decide +kernel)
set_option maxRecDepth 20000 in
theorem gX6_plans_X6_wishWith : GoodIn wsX6_plans (wsV RX6 145 RX6 yX6_wishWith wsX6_wishWith) := goodIn_app (goodIn_of _ (by decide +kernel)) ggX6_plans_X6_wishWith
set_option maxRecDepth 20000 in
theorem ggX6_plans_X6_changes : GoodIn wsX6_plans wsX6_changes := goodIn_r _ [31, 32, 1, 24, 25, 26, 5, 27, 33, 34, 35, 36, 37, 38, 39, 40, 41, 42, 43, 44, 45, 46, 47, 48, 49, 50] (by decide +kernel) (by decide +kernel)
set_option maxRecDepth 20000 in
theorem gX6_plans_X6_changes : GoodIn wsX6_plans (wsV RX6 153 RX6 yX6_changes wsX6_changes) := goodIn_app (goodIn_of _ (by decide +kernel)) ggX6_plans_X6_changes
theorem dX6_plans_0 : decode cX6_plans 0 = .ok (.iconst 0, 1) := by decide +kernel
theorem dX6_plans_1 : decode cX6_plans 1 = .ok (.istore_n 1, 1) := by decide +kernel
theorem dX6_plans_2 : decode cX6_plans 2 = .ok (.iload_n 1, 1) := by decide +kernel
theorem dX6_plans_3 : decode cX6_plans 3 = .ok (.bipush 64, 2) := by decide +kernel
theorem dX6_plans_5 : decode cX6_plans 5 = .ok (.if_icmp .ge 17, 3) := by decide +kernel
theorem dX6_plans_8 : decode cX6_plans 8 = .ok (.aload_n 0, 1) := by decide +kernel
theorem dX6_plans_9 : decode cX6_plans 9 = .ok (.getfield 34, 3) := by decide +kernel
theorem dX6_plans_12 : decode cX6_plans 12 = .ok (.iload_n 1, 1) := by decide +kernel
theorem dX6_plans_13 : decode cX6_plans 13 = .ok (.bipush (-5), 2) := by decide +kernel
theorem dX6_plans_15 : decode cX6_plans 15 = .ok (.iastore, 1) := by decide +kernel
theorem dX6_plans_16 : decode cX6_plans 16 = .ok (.iinc 1 1, 3) := by decide +kernel
theorem dX6_plans_19 : decode cX6_plans 19 = .ok (.goto (-17), 3) := by decide +kernel
theorem dX6_plans_22 : decode cX6_plans 22 = .ok (.iconst 0, 1) := by decide +kernel
theorem dX6_plans_23 : decode cX6_plans 23 = .ok (.istore_n 1, 1) := by decide +kernel
theorem dX6_plans_24 : decode cX6_plans 24 = .ok (.iload_n 1, 1) := by decide +kernel
theorem dX6_plans_25 : decode cX6_plans 25 = .ok (.bipush 64, 2) := by decide +kernel
theorem dX6_plans_27 : decode cX6_plans 27 = .ok (.if_icmp .ge 70, 3) := by decide +kernel
theorem dX6_plans_30 : decode cX6_plans 30 = .ok (.iload_n 1, 1) := by decide +kernel
theorem dX6_plans_31 : decode cX6_plans 31 = .ok (.bipush 8, 2) := by decide +kernel
theorem dX6_plans_33 : decode cX6_plans 33 = .ok (.idiv, 1) := by decide +kernel
theorem dX6_plans_34 : decode cX6_plans 34 = .ok (.istore_n 2, 1) := by decide +kernel
theorem dX6_plans_35 : decode cX6_plans 35 = .ok (.iload_n 1, 1) := by decide +kernel
theorem dX6_plans_36 : decode cX6_plans 36 = .ok (.bipush 8, 2) := by decide +kernel
theorem dX6_plans_38 : decode cX6_plans 38 = .ok (.irem, 1) := by decide +kernel
theorem dX6_plans_39 : decode cX6_plans 39 = .ok (.istore_n 3, 1) := by decide +kernel
theorem dX6_plans_40 : decode cX6_plans 40 = .ok (.aload_n 0, 1) := by decide +kernel
theorem dX6_plans_41 : decode cX6_plans 41 = .ok (.iload_n 2, 1) := by decide +kernel
theorem dX6_plans_42 : decode cX6_plans 42 = .ok (.iload_n 3, 1) := by decide +kernel
theorem dX6_plans_43 : decode cX6_plans 43 = .ok (.invokevirtual 68, 3) := by decide +kernel
theorem dX6_plans_46 : decode cX6_plans 46 = .ok (.ifCond .eq 45, 3) := by decide +kernel
theorem dX6_plans_49 : decode cX6_plans 49 = .ok (.aload_n 0, 1) := by decide +kernel
theorem dX6_plans_50 : decode cX6_plans 50 = .ok (.iconst 1, 1) := by decide +kernel
theorem dX6_plans_51 : decode cX6_plans 51 = .ok (.iload_n 2, 1) := by decide +kernel
theorem dX6_plans_52 : decode cX6_plans 52 = .ok (.invokevirtual 149, 3) := by decide +kernel
theorem dX6_plans_55 : decode cX6_plans 55 = .ok (.istore 4, 2) := by decide +kernel
theorem dX6_plans_57 : decode cX6_plans 57 = .ok (.aload_n 0, 1) := by decide +kernel
theorem dX6_plans_58 : decode cX6_plans 58 = .ok (.iconst 0, 1) := by decide +kernel
theorem dX6_plans_59 : decode cX6_plans 59 = .ok (.iload_n 3, 1) := by decide +kernel
theorem dX6_plans_60 : decode cX6_plans 60 = .ok (.iload 4, 2) := by decide +kernel
theorem dX6_plans_62 : decode cX6_plans 62 = .ok (.invokevirtual 145, 3) := by decide +kernel
theorem dX6_plans_65 : decode cX6_plans 65 = .ok (.bipush (-5), 2) := by decide +kernel
theorem dX6_plans_67 : decode cX6_plans 67 = .ok (.if_icmp .eq 16, 3) := by decide +kernel
theorem dX6_plans_70 : decode cX6_plans 70 = .ok (.aload_n 0, 1) := by decide +kernel
theorem dX6_plans_71 : decode cX6_plans 71 = .ok (.iload_n 3, 1) := by decide +kernel
theorem dX6_plans_72 : decode cX6_plans 72 = .ok (.iload 4, 2) := by decide +kernel
theorem dX6_plans_74 : decode cX6_plans 74 = .ok (.aload_n 0, 1) := by decide +kernel
theorem dX6_plans_75 : decode cX6_plans 75 = .ok (.iconst 0, 1) := by decide +kernel
theorem dX6_plans_76 : decode cX6_plans 76 = .ok (.iload_n 3, 1) := by decide +kernel
theorem dX6_plans_77 : decode cX6_plans 77 = .ok (.invokevirtual 149, 3) := by decide +kernel
theorem dX6_plans_80 : decode cX6_plans 80 = .ok (.invokevirtual 153, 3) := by decide +kernel
theorem dX6_plans_83 : decode cX6_plans 83 = .ok (.aload_n 0, 1) := by decide +kernel
theorem dX6_plans_84 : decode cX6_plans 84 = .ok (.getfield 34, 3) := by decide +kernel
theorem dX6_plans_87 : decode cX6_plans 87 = .ok (.iload_n 1, 1) := by decide +kernel
theorem dX6_plans_88 : decode cX6_plans 88 = .ok (.iload 4, 2) := by decide +kernel
theorem dX6_plans_90 : decode cX6_plans 90 = .ok (.iastore, 1) := by decide +kernel
theorem dX6_plans_91 : decode cX6_plans 91 = .ok (.iinc 1 1, 3) := by decide +kernel
theorem dX6_plans_94 : decode cX6_plans 94 = .ok (.goto (-70), 3) := by decide +kernel
theorem dX6_plans_97 : decode cX6_plans 97 = .ok (.return_, 1) := by decide +kernel
set_option maxRecDepth 20000 in
theorem ggX6_planned_X6_isPair : GoodIn wsX6_planned wsX6_isPair := goodIn_r _ [6, 7, 8, 5, 9, 10, 11, 12] (by decide +kernel) (by decide +kernel)
set_option maxRecDepth 20000 in
theorem gX6_planned_X6_isPair : GoodIn wsX6_planned (va_wsS RX6 89 yX6_isPair wsX6_isPair) := goodIn_app (goodIn_of _ (by decide +kernel)) ggX6_planned_X6_isPair
set_option maxRecDepth 20000 in
theorem ggX6_planned_X6_plans : GoodIn wsX6_planned wsX6_plans := goodIn_r _ [16, 2, 17, 18, 19, 5, 20, 21, 22, 23, 24, 25, 26, 27, 28, 29, 30, 31, 32, 33, 34, 35, 36, 37, 38, 39, 40, 41, 42, 43, 44, 45, 46, 47, 48, 49, 50, 51, 52, 53, 54, 55, 56, 57, 58, 59, 60, 61, 62, 63, 64] (by decide +kernel) (by decide +kernel)
set_option maxRecDepth 20000 in
theorem gX6_planned_X6_plans : GoodIn wsX6_planned (wsV RX6 157 RX6 yX6_plans wsX6_plans) := goodIn_app (goodIn_of _ (by decide +kernel)) ggX6_planned_X6_plans
theorem dX6_planned_0 : decode cX6_planned 0 = .ok (.aload_n 0, 1) := by decide +kernel
theorem dX6_planned_1 : decode cX6_planned 1 = .ok (.iconst 0, 1) := by decide +kernel
theorem dX6_planned_2 : decode cX6_planned 2 = .ok (.putfield 43, 3) := by decide +kernel
theorem dX6_planned_5 : decode cX6_planned 5 = .ok (.iload_n 1, 1) := by decide +kernel
theorem dX6_planned_6 : decode cX6_planned 6 = .ok (.iload_n 2, 1) := by decide +kernel
theorem dX6_planned_7 : decode cX6_planned 7 = .ok (.invokestatic 89, 3) := by decide +kernel
theorem dX6_planned_10 : decode cX6_planned 10 = .ok (.ifCond .ne 5, 3) := by decide +kernel
theorem dX6_planned_13 : decode cX6_planned 13 = .ok (.iconst (-1), 1) := by decide +kernel
theorem dX6_planned_14 : decode cX6_planned 14 = .ok (.ireturn, 1) := by decide +kernel
theorem dX6_planned_15 : decode cX6_planned 15 = .ok (.aload_n 0, 1) := by decide +kernel
theorem dX6_planned_16 : decode cX6_planned 16 = .ok (.invokevirtual 157, 3) := by decide +kernel
theorem dX6_planned_19 : decode cX6_planned 19 = .ok (.aload_n 0, 1) := by decide +kernel
theorem dX6_planned_20 : decode cX6_planned 20 = .ok (.getfield 34, 3) := by decide +kernel
theorem dX6_planned_23 : decode cX6_planned 23 = .ok (.bipush 8, 2) := by decide +kernel
theorem dX6_planned_25 : decode cX6_planned 25 = .ok (.iload_n 1, 1) := by decide +kernel
theorem dX6_planned_26 : decode cX6_planned 26 = .ok (.imul, 1) := by decide +kernel
theorem dX6_planned_27 : decode cX6_planned 27 = .ok (.iload_n 2, 1) := by decide +kernel
theorem dX6_planned_28 : decode cX6_planned 28 = .ok (.iadd, 1) := by decide +kernel
theorem dX6_planned_29 : decode cX6_planned 29 = .ok (.iaload, 1) := by decide +kernel
theorem dX6_planned_30 : decode cX6_planned 30 = .ok (.ireturn, 1) := by decide +kernel
set_option maxRecDepth 20000 in
theorem ggX6_possibleMany_X6_isPossible : GoodIn wsX6_possibleMany wsX6_isPossible := goodIn_r _ [5, 6, 7, 8, 4, 9, 10, 11, 12, 13, 14, 15, 16, 17, 18, 19, 20, 21, 22, 23, 24, 25, 26, 27, 28, 29, 30, 31, 32, 33, 34, 35, 36] (by decide +kernel) (by decide +kernel)
set_option maxRecDepth 20000 in
theorem gX6_possibleMany_X6_isPossible : GoodIn wsX6_possibleMany (wsV RX6 68 RX6 yX6_isPossible wsX6_isPossible) := goodIn_app (goodIn_of _ (by decide +kernel)) ggX6_possibleMany_X6_isPossible
theorem dX6_possibleMany_0 : decode cX6_possibleMany 0 = .ok (.iconst 0, 1) := by decide +kernel
theorem dX6_possibleMany_1 : decode cX6_possibleMany 1 = .ok (.istore_n 1, 1) := by decide +kernel
theorem dX6_possibleMany_2 : decode cX6_possibleMany 2 = .ok (.iconst 0, 1) := by decide +kernel
theorem dX6_possibleMany_3 : decode cX6_possibleMany 3 = .ok (.istore_n 2, 1) := by decide +kernel
theorem dX6_possibleMany_4 : decode cX6_possibleMany 4 = .ok (.iload_n 2, 1) := by decide +kernel
theorem dX6_possibleMany_5 : decode cX6_possibleMany 5 = .ok (.bipush 64, 2) := by decide +kernel
theorem dX6_possibleMany_7 : decode cX6_possibleMany 7 = .ok (.if_icmp .ge 32, 3) := by decide +kernel
theorem dX6_possibleMany_10 : decode cX6_possibleMany 10 = .ok (.iload_n 1, 1) := by decide +kernel
theorem dX6_possibleMany_11 : decode cX6_possibleMany 11 = .ok (.aload_n 0, 1) := by decide +kernel
theorem dX6_possibleMany_12 : decode cX6_possibleMany 12 = .ok (.iload_n 2, 1) := by decide +kernel
theorem dX6_possibleMany_13 : decode cX6_possibleMany 13 = .ok (.bipush 8, 2) := by decide +kernel
theorem dX6_possibleMany_15 : decode cX6_possibleMany 15 = .ok (.idiv, 1) := by decide +kernel
theorem dX6_possibleMany_16 : decode cX6_possibleMany 16 = .ok (.iload_n 2, 1) := by decide +kernel
theorem dX6_possibleMany_17 : decode cX6_possibleMany 17 = .ok (.bipush 8, 2) := by decide +kernel
theorem dX6_possibleMany_19 : decode cX6_possibleMany 19 = .ok (.irem, 1) := by decide +kernel
theorem dX6_possibleMany_20 : decode cX6_possibleMany 20 = .ok (.invokevirtual 68, 3) := by decide +kernel
theorem dX6_possibleMany_23 : decode cX6_possibleMany 23 = .ok (.ifCond .eq 7, 3) := by decide +kernel
theorem dX6_possibleMany_26 : decode cX6_possibleMany 26 = .ok (.iconst 1, 1) := by decide +kernel
theorem dX6_possibleMany_27 : decode cX6_possibleMany 27 = .ok (.goto 4, 3) := by decide +kernel
theorem dX6_possibleMany_30 : decode cX6_possibleMany 30 = .ok (.iconst 0, 1) := by decide +kernel
theorem dX6_possibleMany_31 : decode cX6_possibleMany 31 = .ok (.iadd, 1) := by decide +kernel
theorem dX6_possibleMany_32 : decode cX6_possibleMany 32 = .ok (.istore_n 1, 1) := by decide +kernel
theorem dX6_possibleMany_33 : decode cX6_possibleMany 33 = .ok (.iinc 2 1, 3) := by decide +kernel
theorem dX6_possibleMany_36 : decode cX6_possibleMany 36 = .ok (.goto (-32), 3) := by decide +kernel
theorem dX6_possibleMany_39 : decode cX6_possibleMany 39 = .ok (.iload_n 1, 1) := by decide +kernel
theorem dX6_possibleMany_40 : decode cX6_possibleMany 40 = .ok (.ireturn, 1) := by decide +kernel
theorem dX6_feuds_0 : decode cX6_feuds 0 = .ok (.iconst 0, 1) := by decide +kernel
theorem dX6_feuds_1 : decode cX6_feuds 1 = .ok (.istore_n 1, 1) := by decide +kernel
theorem dX6_feuds_2 : decode cX6_feuds 2 = .ok (.iconst 0, 1) := by decide +kernel
theorem dX6_feuds_3 : decode cX6_feuds 3 = .ok (.istore_n 2, 1) := by decide +kernel
theorem dX6_feuds_4 : decode cX6_feuds 4 = .ok (.iload_n 2, 1) := by decide +kernel
theorem dX6_feuds_5 : decode cX6_feuds 5 = .ok (.bipush 64, 2) := by decide +kernel
theorem dX6_feuds_7 : decode cX6_feuds 7 = .ok (.if_icmp .ge 29, 3) := by decide +kernel
theorem dX6_feuds_10 : decode cX6_feuds 10 = .ok (.iload_n 1, 1) := by decide +kernel
theorem dX6_feuds_11 : decode cX6_feuds 11 = .ok (.aload_n 0, 1) := by decide +kernel
theorem dX6_feuds_12 : decode cX6_feuds 12 = .ok (.getfield 7, 3) := by decide +kernel
theorem dX6_feuds_15 : decode cX6_feuds 15 = .ok (.bipush 33, 2) := by decide +kernel
theorem dX6_feuds_17 : decode cX6_feuds 17 = .ok (.iload_n 2, 1) := by decide +kernel
theorem dX6_feuds_18 : decode cX6_feuds 18 = .ok (.iadd, 1) := by decide +kernel
theorem dX6_feuds_19 : decode cX6_feuds 19 = .ok (.iaload, 1) := by decide +kernel
theorem dX6_feuds_20 : decode cX6_feuds 20 = .ok (.ifCond .le 7, 3) := by decide +kernel
theorem dX6_feuds_23 : decode cX6_feuds 23 = .ok (.iconst 1, 1) := by decide +kernel
theorem dX6_feuds_24 : decode cX6_feuds 24 = .ok (.goto 4, 3) := by decide +kernel
theorem dX6_feuds_27 : decode cX6_feuds 27 = .ok (.iconst 0, 1) := by decide +kernel
theorem dX6_feuds_28 : decode cX6_feuds 28 = .ok (.iadd, 1) := by decide +kernel
theorem dX6_feuds_29 : decode cX6_feuds 29 = .ok (.istore_n 1, 1) := by decide +kernel
theorem dX6_feuds_30 : decode cX6_feuds 30 = .ok (.iinc 2 1, 3) := by decide +kernel
theorem dX6_feuds_33 : decode cX6_feuds 33 = .ok (.goto (-29), 3) := by decide +kernel
theorem dX6_feuds_36 : decode cX6_feuds 36 = .ok (.iload_n 1, 1) := by decide +kernel
theorem dX6_feuds_37 : decode cX6_feuds 37 = .ok (.ireturn, 1) := by decide +kernel
theorem dX6_links_0 : decode cX6_links 0 = .ok (.iconst 0, 1) := by decide +kernel
theorem dX6_links_1 : decode cX6_links 1 = .ok (.istore_n 1, 1) := by decide +kernel
theorem dX6_links_2 : decode cX6_links 2 = .ok (.iconst 0, 1) := by decide +kernel
theorem dX6_links_3 : decode cX6_links 3 = .ok (.istore_n 2, 1) := by decide +kernel
theorem dX6_links_4 : decode cX6_links 4 = .ok (.iload_n 2, 1) := by decide +kernel
theorem dX6_links_5 : decode cX6_links 5 = .ok (.bipush 16, 2) := by decide +kernel
theorem dX6_links_7 : decode cX6_links 7 = .ok (.if_icmp .ge 21, 3) := by decide +kernel
theorem dX6_links_10 : decode cX6_links 10 = .ok (.iload_n 1, 1) := by decide +kernel
theorem dX6_links_11 : decode cX6_links 11 = .ok (.aload_n 0, 1) := by decide +kernel
theorem dX6_links_12 : decode cX6_links 12 = .ok (.getfield 7, 3) := by decide +kernel
theorem dX6_links_15 : decode cX6_links 15 = .ok (.bipush 17, 2) := by decide +kernel
theorem dX6_links_17 : decode cX6_links 17 = .ok (.iload_n 2, 1) := by decide +kernel
theorem dX6_links_18 : decode cX6_links 18 = .ok (.iadd, 1) := by decide +kernel
theorem dX6_links_19 : decode cX6_links 19 = .ok (.iaload, 1) := by decide +kernel
theorem dX6_links_20 : decode cX6_links 20 = .ok (.iadd, 1) := by decide +kernel
theorem dX6_links_21 : decode cX6_links 21 = .ok (.istore_n 1, 1) := by decide +kernel
theorem dX6_links_22 : decode cX6_links 22 = .ok (.iinc 2 1, 3) := by decide +kernel
